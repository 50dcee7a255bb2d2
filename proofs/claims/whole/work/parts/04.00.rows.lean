set_option maxRecDepth 20000 in
theorem ggX0_init_Jx4a65c_init_da8c8 : GoodIn wsX0_init wsJx4a65c_init_da8c8 := goodIn_r _ [14, 15, 16, 17, 18, 19, 20, 21, 22, 23, 24, 25, 26, 2, 3, 31, 32, 33] (by decide +kernel) (by decide +kernel)
set_option maxRecDepth 20000 in
theorem gX0_init_Jx4a65c_init_da8c8 : GoodIn wsX0_init (wsJx4a65c_init_da8c8) := ggX0_init_Jx4a65c_init_da8c8
set_option maxRecDepth 20000 in
theorem ggX0_init_J7_fill_53178 : GoodIn wsX0_init wsJ7_fill_53178 := goodIn_r _ [30] (by decide +kernel) (by decide +kernel)
set_option maxRecDepth 20000 in
theorem gX0_init_J7_fill_53178 : GoodIn wsX0_init (va_wsS RX0 28 yJ7_fill_53178 wsJ7_fill_53178) := goodIn_app (goodIn_of _ (by decide +kernel)) ggX0_init_J7_fill_53178
theorem dX0_init_0 : decode cX0_init 0 = .ok (.aload_n 0, 1) := by decide +kernel
theorem dX0_init_1 : decode cX0_init 1 = .ok (.invokespecial 3, 3) := by decide +kernel
theorem dX0_init_4 : decode cX0_init 4 = .ok (.aload_n 0, 1) := by decide +kernel
theorem dX0_init_5 : decode cX0_init 5 = .ok (.new 9, 3) := by decide +kernel
theorem dX0_init_8 : decode cX0_init 8 = .ok (.dup, 1) := by decide +kernel
theorem dX0_init_9 : decode cX0_init 9 = .ok (.invokespecial 11, 3) := by decide +kernel
theorem dX0_init_12 : decode cX0_init 12 = .ok (.putfield 12, 3) := by decide +kernel
theorem dX0_init_15 : decode cX0_init 15 = .ok (.aload_n 0, 1) := by decide +kernel
theorem dX0_init_16 : decode cX0_init 16 = .ok (.new 9, 3) := by decide +kernel
theorem dX0_init_19 : decode cX0_init 19 = .ok (.dup, 1) := by decide +kernel
theorem dX0_init_20 : decode cX0_init 20 = .ok (.invokespecial 11, 3) := by decide +kernel
theorem dX0_init_23 : decode cX0_init 23 = .ok (.putfield 18, 3) := by decide +kernel
theorem dX0_init_26 : decode cX0_init 26 = .ok (.aload_n 0, 1) := by decide +kernel
theorem dX0_init_27 : decode cX0_init 27 = .ok (.sipush 200, 3) := by decide +kernel
theorem dX0_init_30 : decode cX0_init 30 = .ok (.newarray .int, 2) := by decide +kernel
theorem dX0_init_32 : decode cX0_init 32 = .ok (.putfield 21, 3) := by decide +kernel
theorem dX0_init_35 : decode cX0_init 35 = .ok (.aload_n 0, 1) := by decide +kernel
theorem dX0_init_36 : decode cX0_init 36 = .ok (.sipush 300, 3) := by decide +kernel
theorem dX0_init_39 : decode cX0_init 39 = .ok (.newarray .int, 2) := by decide +kernel
theorem dX0_init_41 : decode cX0_init 41 = .ok (.putfield 25, 3) := by decide +kernel
theorem dX0_init_44 : decode cX0_init 44 = .ok (.aload_n 0, 1) := by decide +kernel
theorem dX0_init_45 : decode cX0_init 45 = .ok (.getfield 21, 3) := by decide +kernel
theorem dX0_init_48 : decode cX0_init 48 = .ok (.iconst (-1), 1) := by decide +kernel
theorem dX0_init_49 : decode cX0_init 49 = .ok (.invokestatic 28, 3) := by decide +kernel
theorem dX0_init_52 : decode cX0_init 52 = .ok (.return_, 1) := by decide +kernel
set_option maxRecDepth 20000 in
theorem ggX0_begin_Jx4a65c_clear_da8c8 : GoodIn wsX0_begin wsJx4a65c_clear_da8c8 := goodIn_r _ [9, 10, 11, 12, 13, 23, 24, 25] (by decide +kernel) (by decide +kernel)
set_option maxRecDepth 20000 in
theorem gX0_begin_Jx4a65c_clear_da8c8 : GoodIn wsX0_begin (wsV RX0 38 RJx4a65c yJx4a65c_clear_da8c8 wsJx4a65c_clear_da8c8) := goodIn_app (goodIn_of _ (by decide +kernel)) ggX0_begin_Jx4a65c_clear_da8c8
set_option maxRecDepth 20000 in
theorem ggX0_begin_J7_fill_53178 : GoodIn wsX0_begin wsJ7_fill_53178 := goodIn_r _ [17] (by decide +kernel) (by decide +kernel)
set_option maxRecDepth 20000 in
theorem gX0_begin_J7_fill_53178 : GoodIn wsX0_begin (va_wsS RX0 28 yJ7_fill_53178 wsJ7_fill_53178) := goodIn_app (goodIn_of _ (by decide +kernel)) ggX0_begin_J7_fill_53178
theorem dX0_begin_0 : decode cX0_begin 0 = .ok (.aload_n 0, 1) := by decide +kernel
theorem dX0_begin_1 : decode cX0_begin 1 = .ok (.iload_n 1, 1) := by decide +kernel
theorem dX0_begin_2 : decode cX0_begin 2 = .ok (.putfield 34, 3) := by decide +kernel
theorem dX0_begin_5 : decode cX0_begin 5 = .ok (.aload_n 0, 1) := by decide +kernel
theorem dX0_begin_6 : decode cX0_begin 6 = .ok (.getfield 12, 3) := by decide +kernel
theorem dX0_begin_9 : decode cX0_begin 9 = .ok (.invokevirtual 38, 3) := by decide +kernel
theorem dX0_begin_12 : decode cX0_begin 12 = .ok (.aload_n 0, 1) := by decide +kernel
theorem dX0_begin_13 : decode cX0_begin 13 = .ok (.getfield 18, 3) := by decide +kernel
theorem dX0_begin_16 : decode cX0_begin 16 = .ok (.invokevirtual 38, 3) := by decide +kernel
theorem dX0_begin_19 : decode cX0_begin 19 = .ok (.aload_n 0, 1) := by decide +kernel
theorem dX0_begin_20 : decode cX0_begin 20 = .ok (.getfield 21, 3) := by decide +kernel
theorem dX0_begin_23 : decode cX0_begin 23 = .ok (.iconst (-1), 1) := by decide +kernel
theorem dX0_begin_24 : decode cX0_begin 24 = .ok (.invokestatic 28, 3) := by decide +kernel
theorem dX0_begin_27 : decode cX0_begin 27 = .ok (.return_, 1) := by decide +kernel
set_option maxRecDepth 20000 in
theorem ggX0_addPiece_Jx4a65c_size_8abf5 : GoodIn wsX0_addPiece wsJx4a65c_size_8abf5 := goodIn_r _ [8, 9, 87, 88, 89] (by decide +kernel) (by decide +kernel)
set_option maxRecDepth 20000 in
theorem gX0_addPiece_Jx4a65c_size_8abf5 : GoodIn wsX0_addPiece (wsV RX0 41 RJx4a65c yJx4a65c_size_8abf5 wsJx4a65c_size_8abf5) := goodIn_app (goodIn_of _ (by decide +kernel)) ggX0_addPiece_Jx4a65c_size_8abf5
set_option maxRecDepth 20000 in
theorem ggX0_addPiece_Jx4a65c_add_9ea2d : GoodIn wsX0_addPiece wsJx4a65c_add_9ea2d := goodIn_r _ [13, 14, 15, 16, 9, 17, 18, 19, 7, 20, 21, 22, 23, 24, 25, 26, 27, 28, 29, 30, 31, 32, 33, 34, 35, 36, 37, 38, 39, 40, 41, 42, 43, 44, 45, 46, 47, 48, 49, 50, 51, 52, 53, 54, 55, 56, 57, 58, 59, 60, 61, 62, 63, 87, 88, 89] (by decide +kernel) (by decide +kernel)
set_option maxRecDepth 20000 in
theorem gX0_addPiece_Jx4a65c_add_9ea2d : GoodIn wsX0_addPiece (wsV RX0 45 RJx4a65c yJx4a65c_add_9ea2d wsJx4a65c_add_9ea2d) := goodIn_app (goodIn_of _ (by decide +kernel)) ggX0_addPiece_Jx4a65c_add_9ea2d
set_option maxRecDepth 20000 in
theorem ggX0_addPiece_X0_hang : GoodIn wsX0_addPiece wsX0_hang := goodIn_r _ [68, 69, 70, 71, 72, 73, 74, 75] (by decide +kernel) (by decide +kernel)
set_option maxRecDepth 20000 in
theorem gX0_addPiece_X0_hang : GoodIn wsX0_addPiece (wsV RX0 54 RX0 yX0_hang wsX0_hang) := goodIn_app (goodIn_of _ (by decide +kernel)) ggX0_addPiece_X0_hang
theorem dX0_addPiece_0 : decode cX0_addPiece 0 = .ok (.iconst 2, 1) := by decide +kernel
theorem dX0_addPiece_1 : decode cX0_addPiece 1 = .ok (.aload_n 0, 1) := by decide +kernel
theorem dX0_addPiece_2 : decode cX0_addPiece 2 = .ok (.getfield 12, 3) := by decide +kernel
theorem dX0_addPiece_5 : decode cX0_addPiece 5 = .ok (.invokevirtual 41, 3) := by decide +kernel
theorem dX0_addPiece_8 : decode cX0_addPiece 8 = .ok (.imul, 1) := by decide +kernel
theorem dX0_addPiece_9 : decode cX0_addPiece 9 = .ok (.istore_n 2, 1) := by decide +kernel
theorem dX0_addPiece_10 : decode cX0_addPiece 10 = .ok (.aload_n 0, 1) := by decide +kernel
theorem dX0_addPiece_11 : decode cX0_addPiece 11 = .ok (.getfield 12, 3) := by decide +kernel
theorem dX0_addPiece_14 : decode cX0_addPiece 14 = .ok (.aload_n 1, 1) := by decide +kernel
theorem dX0_addPiece_15 : decode cX0_addPiece 15 = .ok (.invokevirtual 45, 3) := by decide +kernel
theorem dX0_addPiece_18 : decode cX0_addPiece 18 = .ok (.pop, 1) := by decide +kernel
theorem dX0_addPiece_19 : decode cX0_addPiece 19 = .ok (.aload_n 0, 1) := by decide +kernel
theorem dX0_addPiece_20 : decode cX0_addPiece 20 = .ok (.iload_n 2, 1) := by decide +kernel
theorem dX0_addPiece_21 : decode cX0_addPiece 21 = .ok (.aload_n 1, 1) := by decide +kernel
theorem dX0_addPiece_22 : decode cX0_addPiece 22 = .ok (.getfield 49, 3) := by decide +kernel
theorem dX0_addPiece_25 : decode cX0_addPiece 25 = .ok (.invokevirtual 54, 3) := by decide +kernel
theorem dX0_addPiece_28 : decode cX0_addPiece 28 = .ok (.aload_n 0, 1) := by decide +kernel
theorem dX0_addPiece_29 : decode cX0_addPiece 29 = .ok (.iload_n 2, 1) := by decide +kernel
theorem dX0_addPiece_30 : decode cX0_addPiece 30 = .ok (.iconst 1, 1) := by decide +kernel
theorem dX0_addPiece_31 : decode cX0_addPiece 31 = .ok (.iadd, 1) := by decide +kernel
theorem dX0_addPiece_32 : decode cX0_addPiece 32 = .ok (.aload_n 1, 1) := by decide +kernel
theorem dX0_addPiece_33 : decode cX0_addPiece 33 = .ok (.getfield 58, 3) := by decide +kernel
theorem dX0_addPiece_36 : decode cX0_addPiece 36 = .ok (.invokevirtual 54, 3) := by decide +kernel
theorem dX0_addPiece_39 : decode cX0_addPiece 39 = .ok (.return_, 1) := by decide +kernel
theorem dX0_hang_0 : decode cX0_hang 0 = .ok (.aload_n 0, 1) := by decide +kernel
theorem dX0_hang_1 : decode cX0_hang 1 = .ok (.getfield 25, 3) := by decide +kernel
theorem dX0_hang_4 : decode cX0_hang 4 = .ok (.iload_n 1, 1) := by decide +kernel
theorem dX0_hang_5 : decode cX0_hang 5 = .ok (.aload_n 0, 1) := by decide +kernel
theorem dX0_hang_6 : decode cX0_hang 6 = .ok (.getfield 21, 3) := by decide +kernel
theorem dX0_hang_9 : decode cX0_hang 9 = .ok (.iload_n 2, 1) := by decide +kernel
theorem dX0_hang_10 : decode cX0_hang 10 = .ok (.iaload, 1) := by decide +kernel
theorem dX0_hang_11 : decode cX0_hang 11 = .ok (.iastore, 1) := by decide +kernel
theorem dX0_hang_12 : decode cX0_hang 12 = .ok (.aload_n 0, 1) := by decide +kernel
theorem dX0_hang_13 : decode cX0_hang 13 = .ok (.getfield 21, 3) := by decide +kernel
theorem dX0_hang_16 : decode cX0_hang 16 = .ok (.iload_n 2, 1) := by decide +kernel
theorem dX0_hang_17 : decode cX0_hang 17 = .ok (.iload_n 1, 1) := by decide +kernel
theorem dX0_hang_18 : decode cX0_hang 18 = .ok (.iastore, 1) := by decide +kernel
theorem dX0_hang_19 : decode cX0_hang 19 = .ok (.return_, 1) := by decide +kernel
set_option maxRecDepth 20000 in
theorem ggX1_init_J7_fill_53178 : GoodIn wsX1_init wsJ7_fill_53178 := goodIn_r _ [12] (by decide +kernel) (by decide +kernel)
set_option maxRecDepth 20000 in
theorem gX1_init_J7_fill_53178 : GoodIn wsX1_init (va_wsS RX1 22 yJ7_fill_53178 wsJ7_fill_53178) := goodIn_app (goodIn_of _ (by decide +kernel)) ggX1_init_J7_fill_53178
theorem dX1_init_0 : decode cX1_init 0 = .ok (.aload_n 0, 1) := by decide +kernel
theorem dX1_init_1 : decode cX1_init 1 = .ok (.invokespecial 3, 3) := by decide +kernel
theorem dX1_init_4 : decode cX1_init 4 = .ok (.aload_n 0, 1) := by decide +kernel
theorem dX1_init_5 : decode cX1_init 5 = .ok (.sipush 200, 3) := by decide +kernel
theorem dX1_init_8 : decode cX1_init 8 = .ok (.newarray .int, 2) := by decide +kernel
theorem dX1_init_10 : decode cX1_init 10 = .ok (.putfield 9, 3) := by decide +kernel
theorem dX1_init_13 : decode cX1_init 13 = .ok (.aload_n 0, 1) := by decide +kernel
theorem dX1_init_14 : decode cX1_init 14 = .ok (.sipush 200, 3) := by decide +kernel
theorem dX1_init_17 : decode cX1_init 17 = .ok (.newarray .int, 2) := by decide +kernel
theorem dX1_init_19 : decode cX1_init 19 = .ok (.putfield 15, 3) := by decide +kernel
theorem dX1_init_22 : decode cX1_init 22 = .ok (.aload_n 0, 1) := by decide +kernel
theorem dX1_init_23 : decode cX1_init 23 = .ok (.sipush 200, 3) := by decide +kernel
theorem dX1_init_26 : decode cX1_init 26 = .ok (.newarray .long, 2) := by decide +kernel
theorem dX1_init_28 : decode cX1_init 28 = .ok (.putfield 18, 3) := by decide +kernel
theorem dX1_init_31 : decode cX1_init 31 = .ok (.aload_n 0, 1) := by decide +kernel
theorem dX1_init_32 : decode cX1_init 32 = .ok (.getfield 15, 3) := by decide +kernel
theorem dX1_init_35 : decode cX1_init 35 = .ok (.iconst (-1), 1) := by decide +kernel
theorem dX1_init_36 : decode cX1_init 36 = .ok (.invokestatic 22, 3) := by decide +kernel
theorem dX1_init_39 : decode cX1_init 39 = .ok (.return_, 1) := by decide +kernel
theorem dX1_put_0 : decode cX1_put 0 = .ok (.aload_n 0, 1) := by decide +kernel
theorem dX1_put_1 : decode cX1_put 1 = .ok (.getfield 18, 3) := by decide +kernel
theorem dX1_put_4 : decode cX1_put 4 = .ok (.iload_n 1, 1) := by decide +kernel
theorem dX1_put_5 : decode cX1_put 5 = .ok (.lload_n 2, 1) := by decide +kernel
theorem dX1_put_6 : decode cX1_put 6 = .ok (.lastore, 1) := by decide +kernel
theorem dX1_put_7 : decode cX1_put 7 = .ok (.aload_n 0, 1) := by decide +kernel
theorem dX1_put_8 : decode cX1_put 8 = .ok (.getfield 15, 3) := by decide +kernel
theorem dX1_put_11 : decode cX1_put 11 = .ok (.iload_n 1, 1) := by decide +kernel
theorem dX1_put_12 : decode cX1_put 12 = .ok (.iaload, 1) := by decide +kernel
theorem dX1_put_13 : decode cX1_put 13 = .ok (.istore 4, 2) := by decide +kernel
theorem dX1_put_15 : decode cX1_put 15 = .ok (.iload 4, 2) := by decide +kernel
theorem dX1_put_17 : decode cX1_put 17 = .ok (.iconst (-1), 1) := by decide +kernel
theorem dX1_put_18 : decode cX1_put 18 = .ok (.if_icmp .ne 19, 3) := by decide +kernel
theorem dX1_put_21 : decode cX1_put 21 = .ok (.aload_n 0, 1) := by decide +kernel
theorem dX1_put_22 : decode cX1_put 22 = .ok (.getfield 28, 3) := by decide +kernel
theorem dX1_put_25 : decode cX1_put 25 = .ok (.istore 4, 2) := by decide +kernel
theorem dX1_put_27 : decode cX1_put 27 = .ok (.aload_n 0, 1) := by decide +kernel
theorem dX1_put_28 : decode cX1_put 28 = .ok (.dup, 1) := by decide +kernel
theorem dX1_put_29 : decode cX1_put 29 = .ok (.getfield 28, 3) := by decide +kernel
theorem dX1_put_32 : decode cX1_put 32 = .ok (.iconst 1, 1) := by decide +kernel
theorem dX1_put_33 : decode cX1_put 33 = .ok (.iadd, 1) := by decide +kernel
theorem dX1_put_34 : decode cX1_put 34 = .ok (.putfield 28, 3) := by decide +kernel
theorem dX1_put_37 : decode cX1_put 37 = .ok (.iload 4, 2) := by decide +kernel
theorem dX1_put_39 : decode cX1_put 39 = .ok (.ifCond .le 66, 3) := by decide +kernel
theorem dX1_put_42 : decode cX1_put 42 = .ok (.aload_n 0, 1) := by decide +kernel
theorem dX1_put_43 : decode cX1_put 43 = .ok (.getfield 18, 3) := by decide +kernel
theorem dX1_put_46 : decode cX1_put 46 = .ok (.aload_n 0, 1) := by decide +kernel
theorem dX1_put_47 : decode cX1_put 47 = .ok (.getfield 9, 3) := by decide +kernel
theorem dX1_put_50 : decode cX1_put 50 = .ok (.iload 4, 2) := by decide +kernel
theorem dX1_put_52 : decode cX1_put 52 = .ok (.iconst 1, 1) := by decide +kernel
theorem dX1_put_53 : decode cX1_put 53 = .ok (.isub, 1) := by decide +kernel
theorem dX1_put_54 : decode cX1_put 54 = .ok (.iconst 2, 1) := by decide +kernel
theorem dX1_put_55 : decode cX1_put 55 = .ok (.idiv, 1) := by decide +kernel
theorem dX1_put_56 : decode cX1_put 56 = .ok (.iaload, 1) := by decide +kernel
theorem dX1_put_57 : decode cX1_put 57 = .ok (.laload, 1) := by decide +kernel
theorem dX1_put_58 : decode cX1_put 58 = .ok (.lload_n 2, 1) := by decide +kernel
theorem dX1_put_59 : decode cX1_put 59 = .ok (.lcmp, 1) := by decide +kernel
theorem dX1_put_60 : decode cX1_put 60 = .ok (.ifCond .le 45, 3) := by decide +kernel
theorem dX1_put_63 : decode cX1_put 63 = .ok (.aload_n 0, 1) := by decide +kernel
theorem dX1_put_64 : decode cX1_put 64 = .ok (.getfield 9, 3) := by decide +kernel
theorem dX1_put_67 : decode cX1_put 67 = .ok (.iload 4, 2) := by decide +kernel
theorem dX1_put_69 : decode cX1_put 69 = .ok (.iconst 1, 1) := by decide +kernel
theorem dX1_put_70 : decode cX1_put 70 = .ok (.isub, 1) := by decide +kernel
theorem dX1_put_71 : decode cX1_put 71 = .ok (.iconst 2, 1) := by decide +kernel
theorem dX1_put_72 : decode cX1_put 72 = .ok (.idiv, 1) := by decide +kernel
theorem dX1_put_73 : decode cX1_put 73 = .ok (.iaload, 1) := by decide +kernel
theorem dX1_put_74 : decode cX1_put 74 = .ok (.istore 5, 2) := by decide +kernel
theorem dX1_put_76 : decode cX1_put 76 = .ok (.aload_n 0, 1) := by decide +kernel
theorem dX1_put_77 : decode cX1_put 77 = .ok (.getfield 9, 3) := by decide +kernel
theorem dX1_put_80 : decode cX1_put 80 = .ok (.iload 4, 2) := by decide +kernel
theorem dX1_put_82 : decode cX1_put 82 = .ok (.iload 5, 2) := by decide +kernel
theorem dX1_put_84 : decode cX1_put 84 = .ok (.iastore, 1) := by decide +kernel
theorem dX1_put_85 : decode cX1_put 85 = .ok (.aload_n 0, 1) := by decide +kernel
theorem dX1_put_86 : decode cX1_put 86 = .ok (.getfield 15, 3) := by decide +kernel
theorem dX1_put_89 : decode cX1_put 89 = .ok (.iload 5, 2) := by decide +kernel
theorem dX1_put_91 : decode cX1_put 91 = .ok (.iload 4, 2) := by decide +kernel
theorem dX1_put_93 : decode cX1_put 93 = .ok (.iastore, 1) := by decide +kernel
theorem dX1_put_94 : decode cX1_put 94 = .ok (.iload 4, 2) := by decide +kernel
theorem dX1_put_96 : decode cX1_put 96 = .ok (.iconst 1, 1) := by decide +kernel
theorem dX1_put_97 : decode cX1_put 97 = .ok (.isub, 1) := by decide +kernel
theorem dX1_put_98 : decode cX1_put 98 = .ok (.iconst 2, 1) := by decide +kernel
theorem dX1_put_99 : decode cX1_put 99 = .ok (.idiv, 1) := by decide +kernel
theorem dX1_put_100 : decode cX1_put 100 = .ok (.istore 4, 2) := by decide +kernel
theorem dX1_put_102 : decode cX1_put 102 = .ok (.goto (-65), 3) := by decide +kernel
theorem dX1_put_105 : decode cX1_put 105 = .ok (.aload_n 0, 1) := by decide +kernel
theorem dX1_put_106 : decode cX1_put 106 = .ok (.getfield 9, 3) := by decide +kernel
theorem dX1_put_109 : decode cX1_put 109 = .ok (.iload 4, 2) := by decide +kernel
theorem dX1_put_111 : decode cX1_put 111 = .ok (.iload_n 1, 1) := by decide +kernel
theorem dX1_put_112 : decode cX1_put 112 = .ok (.iastore, 1) := by decide +kernel
theorem dX1_put_113 : decode cX1_put 113 = .ok (.aload_n 0, 1) := by decide +kernel
theorem dX1_put_114 : decode cX1_put 114 = .ok (.getfield 15, 3) := by decide +kernel
theorem dX1_put_117 : decode cX1_put 117 = .ok (.iload_n 1, 1) := by decide +kernel
theorem dX1_put_118 : decode cX1_put 118 = .ok (.iload 4, 2) := by decide +kernel
theorem dX1_put_120 : decode cX1_put 120 = .ok (.iastore, 1) := by decide +kernel
theorem dX1_put_121 : decode cX1_put 121 = .ok (.return_, 1) := by decide +kernel
set_option maxRecDepth 20000 in
theorem ggX1_takeLeast_X1_sinkFromTop : GoodIn wsX1_takeLeast wsX1_sinkFromTop := goodIn_r _ [8, 1, 9, 2, 3, 10, 11, 12, 13] (by decide +kernel) (by decide +kernel)
set_option maxRecDepth 20000 in
theorem gX1_takeLeast_X1_sinkFromTop : GoodIn wsX1_takeLeast (wsV RX1 32 RX1 yX1_sinkFromTop wsX1_sinkFromTop) := goodIn_app (goodIn_of _ (by decide +kernel)) ggX1_takeLeast_X1_sinkFromTop
theorem dX1_takeLeast_0 : decode cX1_takeLeast 0 = .ok (.aload_n 0, 1) := by decide +kernel
theorem dX1_takeLeast_1 : decode cX1_takeLeast 1 = .ok (.getfield 28, 3) := by decide +kernel
theorem dX1_takeLeast_4 : decode cX1_takeLeast 4 = .ok (.ifCond .ne 5, 3) := by decide +kernel
theorem dX1_takeLeast_7 : decode cX1_takeLeast 7 = .ok (.iconst (-1), 1) := by decide +kernel
theorem dX1_takeLeast_8 : decode cX1_takeLeast 8 = .ok (.ireturn, 1) := by decide +kernel
theorem dX1_takeLeast_9 : decode cX1_takeLeast 9 = .ok (.aload_n 0, 1) := by decide +kernel
theorem dX1_takeLeast_10 : decode cX1_takeLeast 10 = .ok (.getfield 9, 3) := by decide +kernel
theorem dX1_takeLeast_13 : decode cX1_takeLeast 13 = .ok (.iconst 0, 1) := by decide +kernel
theorem dX1_takeLeast_14 : decode cX1_takeLeast 14 = .ok (.iaload, 1) := by decide +kernel
theorem dX1_takeLeast_15 : decode cX1_takeLeast 15 = .ok (.istore_n 1, 1) := by decide +kernel
theorem dX1_takeLeast_16 : decode cX1_takeLeast 16 = .ok (.aload_n 0, 1) := by decide +kernel
theorem dX1_takeLeast_17 : decode cX1_takeLeast 17 = .ok (.getfield 15, 3) := by decide +kernel
theorem dX1_takeLeast_20 : decode cX1_takeLeast 20 = .ok (.iload_n 1, 1) := by decide +kernel
theorem dX1_takeLeast_21 : decode cX1_takeLeast 21 = .ok (.iconst (-1), 1) := by decide +kernel
theorem dX1_takeLeast_22 : decode cX1_takeLeast 22 = .ok (.iastore, 1) := by decide +kernel
theorem dX1_takeLeast_23 : decode cX1_takeLeast 23 = .ok (.aload_n 0, 1) := by decide +kernel
theorem dX1_takeLeast_24 : decode cX1_takeLeast 24 = .ok (.dup, 1) := by decide +kernel
theorem dX1_takeLeast_25 : decode cX1_takeLeast 25 = .ok (.getfield 28, 3) := by decide +kernel
theorem dX1_takeLeast_28 : decode cX1_takeLeast 28 = .ok (.iconst 1, 1) := by decide +kernel
theorem dX1_takeLeast_29 : decode cX1_takeLeast 29 = .ok (.isub, 1) := by decide +kernel
theorem dX1_takeLeast_30 : decode cX1_takeLeast 30 = .ok (.putfield 28, 3) := by decide +kernel
theorem dX1_takeLeast_33 : decode cX1_takeLeast 33 = .ok (.aload_n 0, 1) := by decide +kernel
theorem dX1_takeLeast_34 : decode cX1_takeLeast 34 = .ok (.getfield 28, 3) := by decide +kernel
theorem dX1_takeLeast_37 : decode cX1_takeLeast 37 = .ok (.ifCond .le 16, 3) := by decide +kernel
theorem dX1_takeLeast_40 : decode cX1_takeLeast 40 = .ok (.aload_n 0, 1) := by decide +kernel
theorem dX1_takeLeast_41 : decode cX1_takeLeast 41 = .ok (.aload_n 0, 1) := by decide +kernel
theorem dX1_takeLeast_42 : decode cX1_takeLeast 42 = .ok (.getfield 9, 3) := by decide +kernel
theorem dX1_takeLeast_45 : decode cX1_takeLeast 45 = .ok (.aload_n 0, 1) := by decide +kernel
theorem dX1_takeLeast_46 : decode cX1_takeLeast 46 = .ok (.getfield 28, 3) := by decide +kernel
theorem dX1_takeLeast_49 : decode cX1_takeLeast 49 = .ok (.iaload, 1) := by decide +kernel
theorem dX1_takeLeast_50 : decode cX1_takeLeast 50 = .ok (.invokevirtual 32, 3) := by decide +kernel
theorem dX1_takeLeast_53 : decode cX1_takeLeast 53 = .ok (.iload_n 1, 1) := by decide +kernel
theorem dX1_takeLeast_54 : decode cX1_takeLeast 54 = .ok (.ireturn, 1) := by decide +kernel
theorem dX1_sinkFromTop_0 : decode cX1_sinkFromTop 0 = .ok (.iconst 0, 1) := by decide +kernel
theorem dX1_sinkFromTop_1 : decode cX1_sinkFromTop 1 = .ok (.istore_n 2, 1) := by decide +kernel
theorem dX1_sinkFromTop_2 : decode cX1_sinkFromTop 2 = .ok (.iconst 2, 1) := by decide +kernel
theorem dX1_sinkFromTop_3 : decode cX1_sinkFromTop 3 = .ok (.iload_n 2, 1) := by decide +kernel
theorem dX1_sinkFromTop_4 : decode cX1_sinkFromTop 4 = .ok (.imul, 1) := by decide +kernel
theorem dX1_sinkFromTop_5 : decode cX1_sinkFromTop 5 = .ok (.iconst 1, 1) := by decide +kernel
theorem dX1_sinkFromTop_6 : decode cX1_sinkFromTop 6 = .ok (.iadd, 1) := by decide +kernel
theorem dX1_sinkFromTop_7 : decode cX1_sinkFromTop 7 = .ok (.aload_n 0, 1) := by decide +kernel
theorem dX1_sinkFromTop_8 : decode cX1_sinkFromTop 8 = .ok (.getfield 28, 3) := by decide +kernel
theorem dX1_sinkFromTop_11 : decode cX1_sinkFromTop 11 = .ok (.if_icmp .ge 103, 3) := by decide +kernel
theorem dX1_sinkFromTop_14 : decode cX1_sinkFromTop 14 = .ok (.iconst 2, 1) := by decide +kernel
theorem dX1_sinkFromTop_15 : decode cX1_sinkFromTop 15 = .ok (.iload_n 2, 1) := by decide +kernel
theorem dX1_sinkFromTop_16 : decode cX1_sinkFromTop 16 = .ok (.imul, 1) := by decide +kernel
theorem dX1_sinkFromTop_17 : decode cX1_sinkFromTop 17 = .ok (.iconst 1, 1) := by decide +kernel
theorem dX1_sinkFromTop_18 : decode cX1_sinkFromTop 18 = .ok (.iadd, 1) := by decide +kernel
theorem dX1_sinkFromTop_19 : decode cX1_sinkFromTop 19 = .ok (.istore_n 3, 1) := by decide +kernel
theorem dX1_sinkFromTop_20 : decode cX1_sinkFromTop 20 = .ok (.iload_n 3, 1) := by decide +kernel
theorem dX1_sinkFromTop_21 : decode cX1_sinkFromTop 21 = .ok (.iconst 1, 1) := by decide +kernel
theorem dX1_sinkFromTop_22 : decode cX1_sinkFromTop 22 = .ok (.iadd, 1) := by decide +kernel
theorem dX1_sinkFromTop_23 : decode cX1_sinkFromTop 23 = .ok (.aload_n 0, 1) := by decide +kernel
theorem dX1_sinkFromTop_24 : decode cX1_sinkFromTop 24 = .ok (.getfield 28, 3) := by decide +kernel
theorem dX1_sinkFromTop_27 : decode cX1_sinkFromTop 27 = .ok (.if_icmp .ge 34, 3) := by decide +kernel
theorem dX1_sinkFromTop_30 : decode cX1_sinkFromTop 30 = .ok (.aload_n 0, 1) := by decide +kernel
theorem dX1_sinkFromTop_31 : decode cX1_sinkFromTop 31 = .ok (.getfield 18, 3) := by decide +kernel
theorem dX1_sinkFromTop_34 : decode cX1_sinkFromTop 34 = .ok (.aload_n 0, 1) := by decide +kernel
theorem dX1_sinkFromTop_35 : decode cX1_sinkFromTop 35 = .ok (.getfield 9, 3) := by decide +kernel
theorem dX1_sinkFromTop_38 : decode cX1_sinkFromTop 38 = .ok (.iload_n 3, 1) := by decide +kernel
theorem dX1_sinkFromTop_39 : decode cX1_sinkFromTop 39 = .ok (.iconst 1, 1) := by decide +kernel
theorem dX1_sinkFromTop_40 : decode cX1_sinkFromTop 40 = .ok (.iadd, 1) := by decide +kernel
theorem dX1_sinkFromTop_41 : decode cX1_sinkFromTop 41 = .ok (.iaload, 1) := by decide +kernel
theorem dX1_sinkFromTop_42 : decode cX1_sinkFromTop 42 = .ok (.laload, 1) := by decide +kernel
theorem dX1_sinkFromTop_43 : decode cX1_sinkFromTop 43 = .ok (.aload_n 0, 1) := by decide +kernel
theorem dX1_sinkFromTop_44 : decode cX1_sinkFromTop 44 = .ok (.getfield 18, 3) := by decide +kernel
theorem dX1_sinkFromTop_47 : decode cX1_sinkFromTop 47 = .ok (.aload_n 0, 1) := by decide +kernel
theorem dX1_sinkFromTop_48 : decode cX1_sinkFromTop 48 = .ok (.getfield 9, 3) := by decide +kernel
theorem dX1_sinkFromTop_51 : decode cX1_sinkFromTop 51 = .ok (.iload_n 3, 1) := by decide +kernel
theorem dX1_sinkFromTop_52 : decode cX1_sinkFromTop 52 = .ok (.iaload, 1) := by decide +kernel
theorem dX1_sinkFromTop_53 : decode cX1_sinkFromTop 53 = .ok (.laload, 1) := by decide +kernel
theorem dX1_sinkFromTop_54 : decode cX1_sinkFromTop 54 = .ok (.lcmp, 1) := by decide +kernel
theorem dX1_sinkFromTop_55 : decode cX1_sinkFromTop 55 = .ok (.ifCond .ge 6, 3) := by decide +kernel
theorem dX1_sinkFromTop_58 : decode cX1_sinkFromTop 58 = .ok (.iinc 3 1, 3) := by decide +kernel
theorem dX1_sinkFromTop_61 : decode cX1_sinkFromTop 61 = .ok (.aload_n 0, 1) := by decide +kernel
theorem dX1_sinkFromTop_62 : decode cX1_sinkFromTop 62 = .ok (.getfield 18, 3) := by decide +kernel
theorem dX1_sinkFromTop_65 : decode cX1_sinkFromTop 65 = .ok (.aload_n 0, 1) := by decide +kernel
theorem dX1_sinkFromTop_66 : decode cX1_sinkFromTop 66 = .ok (.getfield 9, 3) := by decide +kernel
theorem dX1_sinkFromTop_69 : decode cX1_sinkFromTop 69 = .ok (.iload_n 3, 1) := by decide +kernel
theorem dX1_sinkFromTop_70 : decode cX1_sinkFromTop 70 = .ok (.iaload, 1) := by decide +kernel
theorem dX1_sinkFromTop_71 : decode cX1_sinkFromTop 71 = .ok (.laload, 1) := by decide +kernel
theorem dX1_sinkFromTop_72 : decode cX1_sinkFromTop 72 = .ok (.aload_n 0, 1) := by decide +kernel
theorem dX1_sinkFromTop_73 : decode cX1_sinkFromTop 73 = .ok (.getfield 18, 3) := by decide +kernel
theorem dX1_sinkFromTop_76 : decode cX1_sinkFromTop 76 = .ok (.iload_n 1, 1) := by decide +kernel
theorem dX1_sinkFromTop_77 : decode cX1_sinkFromTop 77 = .ok (.laload, 1) := by decide +kernel
theorem dX1_sinkFromTop_78 : decode cX1_sinkFromTop 78 = .ok (.lcmp, 1) := by decide +kernel
theorem dX1_sinkFromTop_79 : decode cX1_sinkFromTop 79 = .ok (.ifCond .lt 6, 3) := by decide +kernel
theorem dX1_sinkFromTop_82 : decode cX1_sinkFromTop 82 = .ok (.goto 32, 3) := by decide +kernel
theorem dX1_sinkFromTop_85 : decode cX1_sinkFromTop 85 = .ok (.aload_n 0, 1) := by decide +kernel
theorem dX1_sinkFromTop_86 : decode cX1_sinkFromTop 86 = .ok (.getfield 9, 3) := by decide +kernel
theorem dX1_sinkFromTop_89 : decode cX1_sinkFromTop 89 = .ok (.iload_n 2, 1) := by decide +kernel
theorem dX1_sinkFromTop_90 : decode cX1_sinkFromTop 90 = .ok (.aload_n 0, 1) := by decide +kernel
theorem dX1_sinkFromTop_91 : decode cX1_sinkFromTop 91 = .ok (.getfield 9, 3) := by decide +kernel
theorem dX1_sinkFromTop_94 : decode cX1_sinkFromTop 94 = .ok (.iload_n 3, 1) := by decide +kernel
theorem dX1_sinkFromTop_95 : decode cX1_sinkFromTop 95 = .ok (.iaload, 1) := by decide +kernel
theorem dX1_sinkFromTop_96 : decode cX1_sinkFromTop 96 = .ok (.iastore, 1) := by decide +kernel
theorem dX1_sinkFromTop_97 : decode cX1_sinkFromTop 97 = .ok (.aload_n 0, 1) := by decide +kernel
theorem dX1_sinkFromTop_98 : decode cX1_sinkFromTop 98 = .ok (.getfield 15, 3) := by decide +kernel
theorem dX1_sinkFromTop_101 : decode cX1_sinkFromTop 101 = .ok (.aload_n 0, 1) := by decide +kernel
theorem dX1_sinkFromTop_102 : decode cX1_sinkFromTop 102 = .ok (.getfield 9, 3) := by decide +kernel
theorem dX1_sinkFromTop_105 : decode cX1_sinkFromTop 105 = .ok (.iload_n 2, 1) := by decide +kernel
theorem dX1_sinkFromTop_106 : decode cX1_sinkFromTop 106 = .ok (.iaload, 1) := by decide +kernel
theorem dX1_sinkFromTop_107 : decode cX1_sinkFromTop 107 = .ok (.iload_n 2, 1) := by decide +kernel
theorem dX1_sinkFromTop_108 : decode cX1_sinkFromTop 108 = .ok (.iastore, 1) := by decide +kernel
theorem dX1_sinkFromTop_109 : decode cX1_sinkFromTop 109 = .ok (.iload_n 3, 1) := by decide +kernel
theorem dX1_sinkFromTop_110 : decode cX1_sinkFromTop 110 = .ok (.istore_n 2, 1) := by decide +kernel
theorem dX1_sinkFromTop_111 : decode cX1_sinkFromTop 111 = .ok (.goto (-109), 3) := by decide +kernel
theorem dX1_sinkFromTop_114 : decode cX1_sinkFromTop 114 = .ok (.aload_n 0, 1) := by decide +kernel
theorem dX1_sinkFromTop_115 : decode cX1_sinkFromTop 115 = .ok (.getfield 9, 3) := by decide +kernel
theorem dX1_sinkFromTop_118 : decode cX1_sinkFromTop 118 = .ok (.iload_n 2, 1) := by decide +kernel
theorem dX1_sinkFromTop_119 : decode cX1_sinkFromTop 119 = .ok (.iload_n 1, 1) := by decide +kernel
theorem dX1_sinkFromTop_120 : decode cX1_sinkFromTop 120 = .ok (.iastore, 1) := by decide +kernel
theorem dX1_sinkFromTop_121 : decode cX1_sinkFromTop 121 = .ok (.aload_n 0, 1) := by decide +kernel
theorem dX1_sinkFromTop_122 : decode cX1_sinkFromTop 122 = .ok (.getfield 15, 3) := by decide +kernel
theorem dX1_sinkFromTop_125 : decode cX1_sinkFromTop 125 = .ok (.iload_n 1, 1) := by decide +kernel
theorem dX1_sinkFromTop_126 : decode cX1_sinkFromTop 126 = .ok (.iload_n 2, 1) := by decide +kernel
theorem dX1_sinkFromTop_127 : decode cX1_sinkFromTop 127 = .ok (.iastore, 1) := by decide +kernel
theorem dX1_sinkFromTop_128 : decode cX1_sinkFromTop 128 = .ok (.return_, 1) := by decide +kernel
theorem dX2_init_0 : decode cX2_init 0 = .ok (.aload_n 0, 1) := by decide +kernel
theorem dX2_init_1 : decode cX2_init 1 = .ok (.invokespecial 3, 3) := by decide +kernel
theorem dX2_init_4 : decode cX2_init 4 = .ok (.aload_n 0, 1) := by decide +kernel
theorem dX2_init_5 : decode cX2_init 5 = .ok (.iconst 3, 1) := by decide +kernel
theorem dX2_init_6 : decode cX2_init 6 = .ok (.newarray .int, 2) := by decide +kernel
theorem dX2_init_8 : decode cX2_init 8 = .ok (.putfield 9, 3) := by decide +kernel
theorem dX2_init_11 : decode cX2_init 11 = .ok (.aload_n 0, 1) := by decide +kernel
theorem dX2_init_12 : decode cX2_init 12 = .ok (.iconst 3, 1) := by decide +kernel
theorem dX2_init_13 : decode cX2_init 13 = .ok (.newarray .int, 2) := by decide +kernel
theorem dX2_init_15 : decode cX2_init 15 = .ok (.putfield 15, 3) := by decide +kernel
theorem dX2_init_18 : decode cX2_init 18 = .ok (.aload_n 0, 1) := by decide +kernel
theorem dX2_init_19 : decode cX2_init 19 = .ok (.iconst 3, 1) := by decide +kernel
theorem dX2_init_20 : decode cX2_init 20 = .ok (.newarray .int, 2) := by decide +kernel
theorem dX2_init_22 : decode cX2_init 22 = .ok (.putfield 18, 3) := by decide +kernel
theorem dX2_init_25 : decode cX2_init 25 = .ok (.aload_n 0, 1) := by decide +kernel
theorem dX2_init_26 : decode cX2_init 26 = .ok (.iload_n 1, 1) := by decide +kernel
theorem dX2_init_27 : decode cX2_init 27 = .ok (.putfield 21, 3) := by decide +kernel
theorem dX2_init_30 : decode cX2_init 30 = .ok (.aload_n 0, 1) := by decide +kernel
theorem dX2_init_31 : decode cX2_init 31 = .ok (.iload_n 2, 1) := by decide +kernel
theorem dX2_init_32 : decode cX2_init 32 = .ok (.putfield 25, 3) := by decide +kernel
theorem dX2_init_35 : decode cX2_init 35 = .ok (.aload_n 0, 1) := by decide +kernel
theorem dX2_init_36 : decode cX2_init 36 = .ok (.iload_n 3, 1) := by decide +kernel
theorem dX2_init_37 : decode cX2_init 37 = .ok (.putfield 28, 3) := by decide +kernel
theorem dX2_init_40 : decode cX2_init 40 = .ok (.aload_n 0, 1) := by decide +kernel
theorem dX2_init_41 : decode cX2_init 41 = .ok (.iload 4, 2) := by decide +kernel
theorem dX2_init_43 : decode cX2_init 43 = .ok (.putfield 31, 3) := by decide +kernel
theorem dX2_init_46 : decode cX2_init 46 = .ok (.return_, 1) := by decide +kernel
theorem dX2_otherEnd_0 : decode cX2_otherEnd 0 = .ok (.iload_n 1, 1) := by decide +kernel
theorem dX2_otherEnd_1 : decode cX2_otherEnd 1 = .ok (.aload_n 0, 1) := by decide +kernel
theorem dX2_otherEnd_2 : decode cX2_otherEnd 2 = .ok (.getfield 21, 3) := by decide +kernel
theorem dX2_otherEnd_5 : decode cX2_otherEnd 5 = .ok (.if_icmp .ne 10, 3) := by decide +kernel
theorem dX2_otherEnd_8 : decode cX2_otherEnd 8 = .ok (.aload_n 0, 1) := by decide +kernel
theorem dX2_otherEnd_9 : decode cX2_otherEnd 9 = .ok (.getfield 25, 3) := by decide +kernel
theorem dX2_otherEnd_12 : decode cX2_otherEnd 12 = .ok (.goto 7, 3) := by decide +kernel
theorem dX2_otherEnd_15 : decode cX2_otherEnd 15 = .ok (.aload_n 0, 1) := by decide +kernel
theorem dX2_otherEnd_16 : decode cX2_otherEnd 16 = .ok (.getfield 21, 3) := by decide +kernel
theorem dX2_otherEnd_19 : decode cX2_otherEnd 19 = .ok (.ireturn, 1) := by decide +kernel
theorem dX2_addRow_0 : decode cX2_addRow 0 = .ok (.aload_n 0, 1) := by decide +kernel
theorem dX2_addRow_1 : decode cX2_addRow 1 = .ok (.getfield 34, 3) := by decide +kernel
theorem dX2_addRow_4 : decode cX2_addRow 4 = .ok (.iconst 3, 1) := by decide +kernel
theorem dX2_addRow_5 : decode cX2_addRow 5 = .ok (.if_icmp .lt 4, 3) := by decide +kernel
theorem dX2_addRow_8 : decode cX2_addRow 8 = .ok (.return_, 1) := by decide +kernel
theorem dX2_addRow_9 : decode cX2_addRow 9 = .ok (.aload_n 0, 1) := by decide +kernel
theorem dX2_addRow_10 : decode cX2_addRow 10 = .ok (.getfield 9, 3) := by decide +kernel
theorem dX2_addRow_13 : decode cX2_addRow 13 = .ok (.aload_n 0, 1) := by decide +kernel
theorem dX2_addRow_14 : decode cX2_addRow 14 = .ok (.getfield 34, 3) := by decide +kernel
theorem dX2_addRow_17 : decode cX2_addRow 17 = .ok (.iload_n 1, 1) := by decide +kernel
theorem dX2_addRow_18 : decode cX2_addRow 18 = .ok (.iastore, 1) := by decide +kernel
theorem dX2_addRow_19 : decode cX2_addRow 19 = .ok (.aload_n 0, 1) := by decide +kernel
theorem dX2_addRow_20 : decode cX2_addRow 20 = .ok (.getfield 15, 3) := by decide +kernel
theorem dX2_addRow_23 : decode cX2_addRow 23 = .ok (.aload_n 0, 1) := by decide +kernel
theorem dX2_addRow_24 : decode cX2_addRow 24 = .ok (.getfield 34, 3) := by decide +kernel
theorem dX2_addRow_27 : decode cX2_addRow 27 = .ok (.iload_n 2, 1) := by decide +kernel
theorem dX2_addRow_28 : decode cX2_addRow 28 = .ok (.iastore, 1) := by decide +kernel
theorem dX2_addRow_29 : decode cX2_addRow 29 = .ok (.aload_n 0, 1) := by decide +kernel
theorem dX2_addRow_30 : decode cX2_addRow 30 = .ok (.getfield 18, 3) := by decide +kernel
theorem dX2_addRow_33 : decode cX2_addRow 33 = .ok (.aload_n 0, 1) := by decide +kernel
theorem dX2_addRow_34 : decode cX2_addRow 34 = .ok (.getfield 34, 3) := by decide +kernel
theorem dX2_addRow_37 : decode cX2_addRow 37 = .ok (.iload_n 3, 1) := by decide +kernel
theorem dX2_addRow_38 : decode cX2_addRow 38 = .ok (.iastore, 1) := by decide +kernel
theorem dX2_addRow_39 : decode cX2_addRow 39 = .ok (.aload_n 0, 1) := by decide +kernel
theorem dX2_addRow_40 : decode cX2_addRow 40 = .ok (.dup, 1) := by decide +kernel
theorem dX2_addRow_41 : decode cX2_addRow 41 = .ok (.getfield 34, 3) := by decide +kernel
theorem dX2_addRow_44 : decode cX2_addRow 44 = .ok (.iconst 1, 1) := by decide +kernel
theorem dX2_addRow_45 : decode cX2_addRow 45 = .ok (.iadd, 1) := by decide +kernel
theorem dX2_addRow_46 : decode cX2_addRow 46 = .ok (.putfield 34, 3) := by decide +kernel
theorem dX2_addRow_49 : decode cX2_addRow 49 = .ok (.return_, 1) := by decide +kernel
theorem dX2_letsPass_0 : decode cX2_letsPass 0 = .ok (.aload_n 0, 1) := by decide +kernel
theorem dX2_letsPass_1 : decode cX2_letsPass 1 = .ok (.getfield 37, 3) := by decide +kernel
theorem dX2_letsPass_4 : decode cX2_letsPass 4 = .ok (.ifCond .ne 50, 3) := by decide +kernel
theorem dX2_letsPass_7 : decode cX2_letsPass 7 = .ok (.aload_n 0, 1) := by decide +kernel
theorem dX2_letsPass_8 : decode cX2_letsPass 8 = .ok (.getfield 31, 3) := by decide +kernel
theorem dX2_letsPass_11 : decode cX2_letsPass 11 = .ok (.ifCond .le 43, 3) := by decide +kernel
theorem dX2_letsPass_14 : decode cX2_letsPass 14 = .ok (.aload_n 0, 1) := by decide +kernel
theorem dX2_letsPass_15 : decode cX2_letsPass 15 = .ok (.getfield 41, 3) := by decide +kernel
theorem dX2_letsPass_18 : decode cX2_letsPass 18 = .ok (.ifCond .eq 14, 3) := by decide +kernel
theorem dX2_letsPass_21 : decode cX2_letsPass 21 = .ok (.aload_n 0, 1) := by decide +kernel
theorem dX2_letsPass_22 : decode cX2_letsPass 22 = .ok (.getfield 41, 3) := by decide +kernel
theorem dX2_letsPass_25 : decode cX2_letsPass 25 = .ok (.aload_n 1, 1) := by decide +kernel
theorem dX2_letsPass_26 : decode cX2_letsPass 26 = .ok (.getfield 44, 3) := by decide +kernel
theorem dX2_letsPass_29 : decode cX2_letsPass 29 = .ok (.if_icmp .lt 25, 3) := by decide +kernel
theorem dX2_letsPass_32 : decode cX2_letsPass 32 = .ok (.aload_n 0, 1) := by decide +kernel
theorem dX2_letsPass_33 : decode cX2_letsPass 33 = .ok (.getfield 49, 3) := by decide +kernel
theorem dX2_letsPass_36 : decode cX2_letsPass 36 = .ok (.ifCond .eq 14, 3) := by decide +kernel
theorem dX2_letsPass_39 : decode cX2_letsPass 39 = .ok (.aload_n 0, 1) := by decide +kernel
theorem dX2_letsPass_40 : decode cX2_letsPass 40 = .ok (.getfield 49, 3) := by decide +kernel
theorem dX2_letsPass_43 : decode cX2_letsPass 43 = .ok (.aload_n 1, 1) := by decide +kernel
theorem dX2_letsPass_44 : decode cX2_letsPass 44 = .ok (.getfield 52, 3) := by decide +kernel
theorem dX2_letsPass_47 : decode cX2_letsPass 47 = .ok (.if_icmp .lt 7, 3) := by decide +kernel
theorem dX2_letsPass_50 : decode cX2_letsPass 50 = .ok (.iconst 1, 1) := by decide +kernel
theorem dX2_letsPass_51 : decode cX2_letsPass 51 = .ok (.goto 4, 3) := by decide +kernel
theorem dX2_letsPass_54 : decode cX2_letsPass 54 = .ok (.iconst 0, 1) := by decide +kernel
theorem dX2_letsPass_55 : decode cX2_letsPass 55 = .ok (.ireturn, 1) := by decide +kernel
set_option maxRecDepth 20000 in
theorem ggX2_secondsFor_X2_percentAt : GoodIn wsX2_secondsFor wsX2_percentAt := goodIn_r _ [10, 11, 12, 13, 14, 15, 16, 17, 18, 19, 20, 21, 22, 23, 24, 25] (by decide +kernel) (by decide +kernel)
set_option maxRecDepth 20000 in
theorem gX2_secondsFor_X2_percentAt : GoodIn wsX2_secondsFor (wsV RX2 55 RX2 yX2_percentAt wsX2_percentAt) := goodIn_app (goodIn_of _ (by decide +kernel)) ggX2_secondsFor_X2_percentAt
theorem dX2_secondsFor_0 : decode cX2_secondsFor 0 = .ok (.aload_n 0, 1) := by decide +kernel
theorem dX2_secondsFor_1 : decode cX2_secondsFor 1 = .ok (.getfield 31, 3) := by decide +kernel
theorem dX2_secondsFor_4 : decode cX2_secondsFor 4 = .ok (.i2l, 1) := by decide +kernel
theorem dX2_secondsFor_5 : decode cX2_secondsFor 5 = .ok (.aload_n 0, 1) := by decide +kernel
theorem dX2_secondsFor_6 : decode cX2_secondsFor 6 = .ok (.iload_n 3, 1) := by decide +kernel
theorem dX2_secondsFor_7 : decode cX2_secondsFor 7 = .ok (.sipush 3600, 3) := by decide +kernel
theorem dX2_secondsFor_10 : decode cX2_secondsFor 10 = .ok (.idiv, 1) := by decide +kernel
theorem dX2_secondsFor_11 : decode cX2_secondsFor 11 = .ok (.bipush 24, 2) := by decide +kernel
theorem dX2_secondsFor_13 : decode cX2_secondsFor 13 = .ok (.irem, 1) := by decide +kernel
theorem dX2_secondsFor_14 : decode cX2_secondsFor 14 = .ok (.invokevirtual 55, 3) := by decide +kernel
theorem dX2_secondsFor_17 : decode cX2_secondsFor 17 = .ok (.i2l, 1) := by decide +kernel
theorem dX2_secondsFor_18 : decode cX2_secondsFor 18 = .ok (.lmul, 1) := by decide +kernel
theorem dX2_secondsFor_19 : decode cX2_secondsFor 19 = .ok (.aload_n 1, 1) := by decide +kernel
theorem dX2_secondsFor_20 : decode cX2_secondsFor 20 = .ok (.getfield 59, 3) := by decide +kernel
theorem dX2_secondsFor_23 : decode cX2_secondsFor 23 = .ok (.i2l, 1) := by decide +kernel
theorem dX2_secondsFor_24 : decode cX2_secondsFor 24 = .ok (.lmul, 1) := by decide +kernel
theorem dX2_secondsFor_25 : decode cX2_secondsFor 25 = .ok (.lstore 4, 2) := by decide +kernel
theorem dX2_secondsFor_27 : decode cX2_secondsFor 27 = .ok (.lload 4, 2) := by decide +kernel
theorem dX2_secondsFor_29 : decode cX2_secondsFor 29 = .ok (.lconst 0, 1) := by decide +kernel
theorem dX2_secondsFor_30 : decode cX2_secondsFor 30 = .ok (.lcmp, 1) := by decide +kernel
theorem dX2_secondsFor_31 : decode cX2_secondsFor 31 = .ok (.ifCond .gt 7, 3) := by decide +kernel
theorem dX2_secondsFor_34 : decode cX2_secondsFor 34 = .ok (.ldc2_w 62, 3) := by decide +kernel
theorem dX2_secondsFor_37 : decode cX2_secondsFor 37 = .ok (.lreturn, 1) := by decide +kernel
theorem dX2_secondsFor_38 : decode cX2_secondsFor 38 = .ok (.iload_n 2, 1) := by decide +kernel
theorem dX2_secondsFor_39 : decode cX2_secondsFor 39 = .ok (.i2l, 1) := by decide +kernel
theorem dX2_secondsFor_40 : decode cX2_secondsFor 40 = .ok (.ldc2_w 64, 3) := by decide +kernel
theorem dX2_secondsFor_43 : decode cX2_secondsFor 43 = .ok (.lmul, 1) := by decide +kernel
theorem dX2_secondsFor_44 : decode cX2_secondsFor 44 = .ok (.aload_n 1, 1) := by decide +kernel
theorem dX2_secondsFor_45 : decode cX2_secondsFor 45 = .ok (.getfield 66, 3) := by decide +kernel
theorem dX2_secondsFor_48 : decode cX2_secondsFor 48 = .ok (.i2l, 1) := by decide +kernel
theorem dX2_secondsFor_49 : decode cX2_secondsFor 49 = .ok (.lmul, 1) := by decide +kernel
theorem dX2_secondsFor_50 : decode cX2_secondsFor 50 = .ok (.lstore 6, 2) := by decide +kernel
theorem dX2_secondsFor_52 : decode cX2_secondsFor 52 = .ok (.lload 6, 2) := by decide +kernel
theorem dX2_secondsFor_54 : decode cX2_secondsFor 54 = .ok (.lload 4, 2) := by decide +kernel
theorem dX2_secondsFor_56 : decode cX2_secondsFor 56 = .ok (.ladd, 1) := by decide +kernel
theorem dX2_secondsFor_57 : decode cX2_secondsFor 57 = .ok (.lconst 1, 1) := by decide +kernel
theorem dX2_secondsFor_58 : decode cX2_secondsFor 58 = .ok (.lsub, 1) := by decide +kernel
theorem dX2_secondsFor_59 : decode cX2_secondsFor 59 = .ok (.lload 4, 2) := by decide +kernel
theorem dX2_secondsFor_61 : decode cX2_secondsFor 61 = .ok (.ldiv, 1) := by decide +kernel
theorem dX2_secondsFor_62 : decode cX2_secondsFor 62 = .ok (.lreturn, 1) := by decide +kernel
theorem dX2_percentAt_0 : decode cX2_percentAt 0 = .ok (.iconst 0, 1) := by decide +kernel
theorem dX2_percentAt_1 : decode cX2_percentAt 1 = .ok (.istore_n 2, 1) := by decide +kernel
theorem dX2_percentAt_2 : decode cX2_percentAt 2 = .ok (.iload_n 2, 1) := by decide +kernel
theorem dX2_percentAt_3 : decode cX2_percentAt 3 = .ok (.aload_n 0, 1) := by decide +kernel
theorem dX2_percentAt_4 : decode cX2_percentAt 4 = .ok (.getfield 34, 3) := by decide +kernel
theorem dX2_percentAt_7 : decode cX2_percentAt 7 = .ok (.if_icmp .ge 36, 3) := by decide +kernel
theorem dX2_percentAt_10 : decode cX2_percentAt 10 = .ok (.aload_n 0, 1) := by decide +kernel
theorem dX2_percentAt_11 : decode cX2_percentAt 11 = .ok (.getfield 9, 3) := by decide +kernel
theorem dX2_percentAt_14 : decode cX2_percentAt 14 = .ok (.iload_n 2, 1) := by decide +kernel
theorem dX2_percentAt_15 : decode cX2_percentAt 15 = .ok (.iaload, 1) := by decide +kernel
theorem dX2_percentAt_16 : decode cX2_percentAt 16 = .ok (.iload_n 1, 1) := by decide +kernel
theorem dX2_percentAt_17 : decode cX2_percentAt 17 = .ok (.if_icmp .gt 20, 3) := by decide +kernel
theorem dX2_percentAt_20 : decode cX2_percentAt 20 = .ok (.iload_n 1, 1) := by decide +kernel
theorem dX2_percentAt_21 : decode cX2_percentAt 21 = .ok (.aload_n 0, 1) := by decide +kernel
theorem dX2_percentAt_22 : decode cX2_percentAt 22 = .ok (.getfield 15, 3) := by decide +kernel
theorem dX2_percentAt_25 : decode cX2_percentAt 25 = .ok (.iload_n 2, 1) := by decide +kernel
theorem dX2_percentAt_26 : decode cX2_percentAt 26 = .ok (.iaload, 1) := by decide +kernel
theorem dX2_percentAt_27 : decode cX2_percentAt 27 = .ok (.if_icmp .gt 10, 3) := by decide +kernel
theorem dX2_percentAt_30 : decode cX2_percentAt 30 = .ok (.aload_n 0, 1) := by decide +kernel
theorem dX2_percentAt_31 : decode cX2_percentAt 31 = .ok (.getfield 18, 3) := by decide +kernel
theorem dX2_percentAt_34 : decode cX2_percentAt 34 = .ok (.iload_n 2, 1) := by decide +kernel
theorem dX2_percentAt_35 : decode cX2_percentAt 35 = .ok (.iaload, 1) := by decide +kernel
theorem dX2_percentAt_36 : decode cX2_percentAt 36 = .ok (.ireturn, 1) := by decide +kernel
theorem dX2_percentAt_37 : decode cX2_percentAt 37 = .ok (.iinc 2 1, 3) := by decide +kernel
theorem dX2_percentAt_40 : decode cX2_percentAt 40 = .ok (.goto (-38), 3) := by decide +kernel
theorem dX2_percentAt_43 : decode cX2_percentAt 43 = .ok (.bipush 100, 2) := by decide +kernel
theorem dX2_percentAt_45 : decode cX2_percentAt 45 = .ok (.ireturn, 1) := by decide +kernel
set_option maxRecDepth 20000 in
theorem ggX3_init_X1_init : GoodIn wsX3_init wsX1_init := goodIn_r _ [17, 18, 2, 3, 11, 19, 20, 8, 21, 22, 23, 24, 25, 26, 27, 28, 29] (by decide +kernel) (by decide +kernel)
set_option maxRecDepth 20000 in
theorem gX3_init_X1_init : GoodIn wsX3_init (wsX1_init) := ggX3_init_X1_init
theorem dX3_init_0 : decode cX3_init 0 = .ok (.aload_n 0, 1) := by decide +kernel
theorem dX3_init_1 : decode cX3_init 1 = .ok (.invokespecial 3, 3) := by decide +kernel
theorem dX3_init_4 : decode cX3_init 4 = .ok (.aload_n 0, 1) := by decide +kernel
theorem dX3_init_5 : decode cX3_init 5 = .ok (.new 9, 3) := by decide +kernel
theorem dX3_init_8 : decode cX3_init 8 = .ok (.dup, 1) := by decide +kernel
theorem dX3_init_9 : decode cX3_init 9 = .ok (.invokespecial 11, 3) := by decide +kernel
theorem dX3_init_12 : decode cX3_init 12 = .ok (.putfield 12, 3) := by decide +kernel
theorem dX3_init_15 : decode cX3_init 15 = .ok (.aload_n 0, 1) := by decide +kernel
theorem dX3_init_16 : decode cX3_init 16 = .ok (.sipush 150, 3) := by decide +kernel
theorem dX3_init_19 : decode cX3_init 19 = .ok (.newarray .long, 2) := by decide +kernel
theorem dX3_init_21 : decode cX3_init 21 = .ok (.putfield 18, 3) := by decide +kernel
theorem dX3_init_24 : decode cX3_init 24 = .ok (.aload_n 0, 1) := by decide +kernel
theorem dX3_init_25 : decode cX3_init 25 = .ok (.sipush 1200, 3) := by decide +kernel
theorem dX3_init_28 : decode cX3_init 28 = .ok (.newarray .long, 2) := by decide +kernel
theorem dX3_init_30 : decode cX3_init 30 = .ok (.putfield 22, 3) := by decide +kernel
theorem dX3_init_33 : decode cX3_init 33 = .ok (.aload_n 0, 1) := by decide +kernel
theorem dX3_init_34 : decode cX3_init 34 = .ok (.sipush 200, 3) := by decide +kernel
theorem dX3_init_37 : decode cX3_init 37 = .ok (.newarray .int, 2) := by decide +kernel
theorem dX3_init_39 : decode cX3_init 39 = .ok (.putfield 25, 3) := by decide +kernel
theorem dX3_init_42 : decode cX3_init 42 = .ok (.aload_n 0, 1) := by decide +kernel
theorem dX3_init_43 : decode cX3_init 43 = .ok (.sipush 200, 3) := by decide +kernel
theorem dX3_init_46 : decode cX3_init 46 = .ok (.newarray .int, 2) := by decide +kernel
theorem dX3_init_48 : decode cX3_init 48 = .ok (.putfield 29, 3) := by decide +kernel
theorem dX3_init_51 : decode cX3_init 51 = .ok (.aload_n 0, 1) := by decide +kernel
theorem dX3_init_52 : decode cX3_init 52 = .ok (.aload_n 1, 1) := by decide +kernel
theorem dX3_init_53 : decode cX3_init 53 = .ok (.putfield 32, 3) := by decide +kernel
theorem dX3_init_56 : decode cX3_init 56 = .ok (.return_, 1) := by decide +kernel
set_option maxRecDepth 20000 in
theorem ggX3_spread_J7_fill_53178 : GoodIn wsX3_spread wsJ7_fill_53178 := goodIn_r _ [10] (by decide +kernel) (by decide +kernel)
set_option maxRecDepth 20000 in
theorem gX3_spread_J7_fill_53178 : GoodIn wsX3_spread (va_wsS RX3 40 yJ7_fill_53178 wsJ7_fill_53178) := goodIn_app (goodIn_of _ (by decide +kernel)) ggX3_spread_J7_fill_53178
set_option maxRecDepth 20000 in
theorem ggX3_spread_X3_pricePieces : GoodIn wsX3_spread wsX3_pricePieces := goodIn_r _ [15, 4, 16, 17, 18, 19, 20, 21, 22, 23, 24, 25, 26, 27, 28, 29, 30, 31, 32, 33, 34, 35, 36, 37, 38, 39, 40, 41, 42, 43, 44, 45, 46, 47, 48, 49, 50, 51, 52, 53, 54, 55, 56, 57, 58, 59, 60, 61, 62, 63, 64, 65, 66, 67, 68, 69, 70, 105, 106, 107, 108, 109, 110, 111, 112, 113, 114, 115, 116, 117, 118, 119, 120, 121, 122, 123, 124, 125, 126, 127, 128, 129, 130, 131, 132, 133, 134, 135] (by decide +kernel) (by decide +kernel)
set_option maxRecDepth 20000 in
theorem gX3_spread_X3_pricePieces : GoodIn wsX3_spread (wsV RX3 46 RX3 yX3_pricePieces wsX3_pricePieces) := goodIn_app (goodIn_of _ (by decide +kernel)) ggX3_spread_X3_pricePieces
set_option maxRecDepth 20000 in
theorem ggX3_spread_X3_offer : GoodIn wsX3_spread wsX3_offer := goodIn_r _ [74, 2, 1, 75, 3, 6, 76, 77, 78, 79, 80, 81, 82, 83, 84, 105, 106, 107, 108, 109, 110, 111, 136, 137, 138, 139] (by decide +kernel) (by decide +kernel)
set_option maxRecDepth 20000 in
theorem gX3_spread_X3_offer : GoodIn wsX3_spread (wsV RX3 50 RX3 yX3_offer wsX3_offer) := goodIn_app (goodIn_of _ (by decide +kernel)) ggX3_spread_X3_offer
set_option maxRecDepth 20000 in
theorem ggX3_spread_X1_takeLeast : GoodIn wsX3_spread wsX1_takeLeast := goodIn_r _ [88, 83, 84, 82, 89, 90, 91, 79, 92, 81, 136, 137, 138, 139] (by decide +kernel) (by decide +kernel)
set_option maxRecDepth 20000 in
theorem gX3_spread_X1_takeLeast : GoodIn wsX3_spread (wsV RX3 59 RX1 yX1_takeLeast wsX1_takeLeast) := goodIn_app (goodIn_of _ (by decide +kernel)) ggX3_spread_X1_takeLeast
set_option maxRecDepth 20000 in
theorem ggX3_spread_X3_settle : GoodIn wsX3_spread wsX3_settle := goodIn_r _ [96, 75, 3, 2, 6, 4, 97, 16, 18, 20, 17, 98, 76, 77, 78, 79, 80, 81, 82, 83, 84, 21, 22, 23, 24, 25, 26, 27, 28, 29, 30, 31, 32, 33, 34, 35, 36, 37, 38, 39, 40, 41, 42, 43, 99, 100, 101, 47, 102, 103, 104, 71, 72, 73, 14, 74, 1, 105, 106, 107, 108, 109, 110, 111, 112, 113, 114, 115, 116, 136, 137, 138, 139, 128, 129, 130, 117, 118, 119, 120, 121, 122, 123, 124, 125, 126, 127] (by decide +kernel) (by decide +kernel)
set_option maxRecDepth 20000 in
theorem gX3_spread_X3_settle : GoodIn wsX3_spread (wsV RX3 63 RX3 yX3_settle wsX3_settle) := goodIn_app (goodIn_of _ (by decide +kernel)) ggX3_spread_X3_settle
theorem dX3_spread_0 : decode cX3_spread 0 = .ok (.aload_n 0, 1) := by decide +kernel
theorem dX3_spread_1 : decode cX3_spread 1 = .ok (.iload 4, 2) := by decide +kernel
theorem dX3_spread_3 : decode cX3_spread 3 = .ok (.putfield 36, 3) := by decide +kernel
theorem dX3_spread_6 : decode cX3_spread 6 = .ok (.aload_n 0, 1) := by decide +kernel
theorem dX3_spread_7 : decode cX3_spread 7 = .ok (.getfield 25, 3) := by decide +kernel
theorem dX3_spread_10 : decode cX3_spread 10 = .ok (.iconst 0, 1) := by decide +kernel
theorem dX3_spread_11 : decode cX3_spread 11 = .ok (.invokestatic 40, 3) := by decide +kernel
theorem dX3_spread_14 : decode cX3_spread 14 = .ok (.aload_n 0, 1) := by decide +kernel
theorem dX3_spread_15 : decode cX3_spread 15 = .ok (.getfield 29, 3) := by decide +kernel
theorem dX3_spread_18 : decode cX3_spread 18 = .ok (.iconst 0, 1) := by decide +kernel
theorem dX3_spread_19 : decode cX3_spread 19 = .ok (.invokestatic 40, 3) := by decide +kernel
theorem dX3_spread_22 : decode cX3_spread 22 = .ok (.aload_n 0, 1) := by decide +kernel
theorem dX3_spread_23 : decode cX3_spread 23 = .ok (.aload_n 2, 1) := by decide +kernel
theorem dX3_spread_24 : decode cX3_spread 24 = .ok (.iload_n 3, 1) := by decide +kernel
theorem dX3_spread_25 : decode cX3_spread 25 = .ok (.invokevirtual 46, 3) := by decide +kernel
theorem dX3_spread_28 : decode cX3_spread 28 = .ok (.aload_n 0, 1) := by decide +kernel
theorem dX3_spread_29 : decode cX3_spread 29 = .ok (.iload_n 1, 1) := by decide +kernel
theorem dX3_spread_30 : decode cX3_spread 30 = .ok (.lconst 0, 1) := by decide +kernel
theorem dX3_spread_31 : decode cX3_spread 31 = .ok (.invokevirtual 50, 3) := by decide +kernel
theorem dX3_spread_34 : decode cX3_spread 34 = .ok (.aload_n 0, 1) := by decide +kernel
theorem dX3_spread_35 : decode cX3_spread 35 = .ok (.getfield 32, 3) := by decide +kernel
theorem dX3_spread_38 : decode cX3_spread 38 = .ok (.getfield 54, 3) := by decide +kernel
theorem dX3_spread_41 : decode cX3_spread 41 = .ok (.aload_n 0, 1) := by decide +kernel
theorem dX3_spread_42 : decode cX3_spread 42 = .ok (.getfield 36, 3) := by decide +kernel
theorem dX3_spread_45 : decode cX3_spread 45 = .ok (.imul, 1) := by decide +kernel
theorem dX3_spread_46 : decode cX3_spread 46 = .ok (.istore 5, 2) := by decide +kernel
theorem dX3_spread_48 : decode cX3_spread 48 = .ok (.iload 5, 2) := by decide +kernel
theorem dX3_spread_50 : decode cX3_spread 50 = .ok (.ifCond .le 31, 3) := by decide +kernel
theorem dX3_spread_53 : decode cX3_spread 53 = .ok (.aload_n 0, 1) := by decide +kernel
theorem dX3_spread_54 : decode cX3_spread 54 = .ok (.getfield 12, 3) := by decide +kernel
theorem dX3_spread_57 : decode cX3_spread 57 = .ok (.invokevirtual 59, 3) := by decide +kernel
theorem dX3_spread_60 : decode cX3_spread 60 = .ok (.istore 6, 2) := by decide +kernel
theorem dX3_spread_62 : decode cX3_spread 62 = .ok (.iload 6, 2) := by decide +kernel
theorem dX3_spread_64 : decode cX3_spread 64 = .ok (.iconst (-1), 1) := by decide +kernel
theorem dX3_spread_65 : decode cX3_spread 65 = .ok (.if_icmp .ne 4, 3) := by decide +kernel
theorem dX3_spread_68 : decode cX3_spread 68 = .ok (.return_, 1) := by decide +kernel
theorem dX3_spread_69 : decode cX3_spread 69 = .ok (.aload_n 0, 1) := by decide +kernel
theorem dX3_spread_70 : decode cX3_spread 70 = .ok (.iload 6, 2) := by decide +kernel
theorem dX3_spread_72 : decode cX3_spread 72 = .ok (.invokevirtual 63, 3) := by decide +kernel
theorem dX3_spread_75 : decode cX3_spread 75 = .ok (.iinc 5 (-1), 3) := by decide +kernel
theorem dX3_spread_78 : decode cX3_spread 78 = .ok (.goto (-30), 3) := by decide +kernel
theorem dX3_spread_81 : decode cX3_spread 81 = .ok (.return_, 1) := by decide +kernel
set_option maxRecDepth 20000 in
theorem ggX3_leastTo_X3_nthTo : GoodIn wsX3_leastTo wsX3_nthTo := goodIn_r _ [5, 6, 7, 8, 9, 10, 11, 12, 13, 14, 15] (by decide +kernel) (by decide +kernel)
set_option maxRecDepth 20000 in
theorem gX3_leastTo_X3_nthTo : GoodIn wsX3_leastTo (wsV RX3 67 RX3 yX3_nthTo wsX3_nthTo) := goodIn_app (goodIn_of _ (by decide +kernel)) ggX3_leastTo_X3_nthTo
theorem dX3_leastTo_0 : decode cX3_leastTo 0 = .ok (.aload_n 0, 1) := by decide +kernel
theorem dX3_leastTo_1 : decode cX3_leastTo 1 = .ok (.iload_n 1, 1) := by decide +kernel
theorem dX3_leastTo_2 : decode cX3_leastTo 2 = .ok (.iconst 1, 1) := by decide +kernel
theorem dX3_leastTo_3 : decode cX3_leastTo 3 = .ok (.invokevirtual 67, 3) := by decide +kernel
theorem dX3_leastTo_6 : decode cX3_leastTo 6 = .ok (.lreturn, 1) := by decide +kernel
theorem dX3_nthTo_0 : decode cX3_nthTo 0 = .ok (.aload_n 0, 1) := by decide +kernel
theorem dX3_nthTo_1 : decode cX3_nthTo 1 = .ok (.getfield 25, 3) := by decide +kernel
theorem dX3_nthTo_4 : decode cX3_nthTo 4 = .ok (.iload_n 1, 1) := by decide +kernel
theorem dX3_nthTo_5 : decode cX3_nthTo 5 = .ok (.iaload, 1) := by decide +kernel
theorem dX3_nthTo_6 : decode cX3_nthTo 6 = .ok (.iload_n 2, 1) := by decide +kernel
theorem dX3_nthTo_7 : decode cX3_nthTo 7 = .ok (.if_icmp .lt 19, 3) := by decide +kernel
theorem dX3_nthTo_10 : decode cX3_nthTo 10 = .ok (.aload_n 0, 1) := by decide +kernel
theorem dX3_nthTo_11 : decode cX3_nthTo 11 = .ok (.getfield 22, 3) := by decide +kernel
theorem dX3_nthTo_14 : decode cX3_nthTo 14 = .ok (.iload_n 1, 1) := by decide +kernel
theorem dX3_nthTo_15 : decode cX3_nthTo 15 = .ok (.bipush 6, 2) := by decide +kernel
theorem dX3_nthTo_17 : decode cX3_nthTo 17 = .ok (.imul, 1) := by decide +kernel
theorem dX3_nthTo_18 : decode cX3_nthTo 18 = .ok (.iload_n 2, 1) := by decide +kernel
theorem dX3_nthTo_19 : decode cX3_nthTo 19 = .ok (.iadd, 1) := by decide +kernel
theorem dX3_nthTo_20 : decode cX3_nthTo 20 = .ok (.iconst 1, 1) := by decide +kernel
theorem dX3_nthTo_21 : decode cX3_nthTo 21 = .ok (.isub, 1) := by decide +kernel
theorem dX3_nthTo_22 : decode cX3_nthTo 22 = .ok (.laload, 1) := by decide +kernel
theorem dX3_nthTo_23 : decode cX3_nthTo 23 = .ok (.goto 6, 3) := by decide +kernel
theorem dX3_nthTo_26 : decode cX3_nthTo 26 = .ok (.ldc2_w 71, 3) := by decide +kernel
theorem dX3_nthTo_29 : decode cX3_nthTo 29 = .ok (.lreturn, 1) := by decide +kernel
set_option maxRecDepth 20000 in
theorem ggX3_lastPieceTo_Jx4a65c_size_8abf5 : GoodIn wsX3_lastPieceTo wsJx4a65c_size_8abf5 := goodIn_r _ [9, 10, 65, 66, 67] (by decide +kernel) (by decide +kernel)
set_option maxRecDepth 20000 in
theorem gX3_lastPieceTo_Jx4a65c_size_8abf5 : GoodIn wsX3_lastPieceTo (wsV RX3 80 RJx4a65c yJx4a65c_size_8abf5 wsJx4a65c_size_8abf5) := goodIn_app (goodIn_of _ (by decide +kernel)) ggX3_lastPieceTo_Jx4a65c_size_8abf5
set_option maxRecDepth 20000 in
theorem ggX3_lastPieceTo_X3_bringsLeast : GoodIn wsX3_lastPieceTo wsX3_bringsLeast := goodIn_r _ [15, 1, 3, 16, 17, 18, 19, 20, 21, 8, 22, 10, 23, 24, 25, 26, 27, 28, 29, 30, 31, 32, 33, 34, 35, 36, 37, 38, 39, 40, 41, 42, 43, 44, 45, 14, 46, 47, 48, 49, 50, 51, 52, 53, 54, 55, 56, 57, 58, 59, 60, 61, 62, 63, 64, 65, 66, 67, 68, 69, 70, 71, 72, 73, 74, 75, 76, 77, 78] (by decide +kernel) (by decide +kernel)
set_option maxRecDepth 20000 in
theorem gX3_lastPieceTo_X3_bringsLeast : GoodIn wsX3_lastPieceTo (wsV RX3 85 RX3 yX3_bringsLeast wsX3_bringsLeast) := goodIn_app (goodIn_of _ (by decide +kernel)) ggX3_lastPieceTo_X3_bringsLeast
theorem dX3_lastPieceTo_0 : decode cX3_lastPieceTo 0 = .ok (.iconst (-1), 1) := by decide +kernel
theorem dX3_lastPieceTo_1 : decode cX3_lastPieceTo 1 = .ok (.istore_n 2, 1) := by decide +kernel
theorem dX3_lastPieceTo_2 : decode cX3_lastPieceTo 2 = .ok (.aload_n 0, 1) := by decide +kernel
theorem dX3_lastPieceTo_3 : decode cX3_lastPieceTo 3 = .ok (.getfield 32, 3) := by decide +kernel
theorem dX3_lastPieceTo_6 : decode cX3_lastPieceTo 6 = .ok (.getfield 73, 3) := by decide +kernel
theorem dX3_lastPieceTo_9 : decode cX3_lastPieceTo 9 = .ok (.iload_n 1, 1) := by decide +kernel
theorem dX3_lastPieceTo_10 : decode cX3_lastPieceTo 10 = .ok (.iaload, 1) := by decide +kernel
theorem dX3_lastPieceTo_11 : decode cX3_lastPieceTo 11 = .ok (.istore_n 3, 1) := by decide +kernel
theorem dX3_lastPieceTo_12 : decode cX3_lastPieceTo 12 = .ok (.iconst 2, 1) := by decide +kernel
theorem dX3_lastPieceTo_13 : decode cX3_lastPieceTo 13 = .ok (.aload_n 0, 1) := by decide +kernel
theorem dX3_lastPieceTo_14 : decode cX3_lastPieceTo 14 = .ok (.getfield 32, 3) := by decide +kernel
theorem dX3_lastPieceTo_17 : decode cX3_lastPieceTo 17 = .ok (.getfield 76, 3) := by decide +kernel
theorem dX3_lastPieceTo_20 : decode cX3_lastPieceTo 20 = .ok (.invokevirtual 80, 3) := by decide +kernel
theorem dX3_lastPieceTo_23 : decode cX3_lastPieceTo 23 = .ok (.imul, 1) := by decide +kernel
theorem dX3_lastPieceTo_24 : decode cX3_lastPieceTo 24 = .ok (.istore 4, 2) := by decide +kernel
theorem dX3_lastPieceTo_26 : decode cX3_lastPieceTo 26 = .ok (.iload 4, 2) := by decide +kernel
theorem dX3_lastPieceTo_28 : decode cX3_lastPieceTo 28 = .ok (.ifCond .le 39, 3) := by decide +kernel
theorem dX3_lastPieceTo_31 : decode cX3_lastPieceTo 31 = .ok (.iload_n 3, 1) := by decide +kernel
theorem dX3_lastPieceTo_32 : decode cX3_lastPieceTo 32 = .ok (.iconst (-1), 1) := by decide +kernel
theorem dX3_lastPieceTo_33 : decode cX3_lastPieceTo 33 = .ok (.if_icmp .eq 34, 3) := by decide +kernel
theorem dX3_lastPieceTo_36 : decode cX3_lastPieceTo 36 = .ok (.aload_n 0, 1) := by decide +kernel
theorem dX3_lastPieceTo_37 : decode cX3_lastPieceTo 37 = .ok (.iload_n 3, 1) := by decide +kernel
theorem dX3_lastPieceTo_38 : decode cX3_lastPieceTo 38 = .ok (.iconst 2, 1) := by decide +kernel
theorem dX3_lastPieceTo_39 : decode cX3_lastPieceTo 39 = .ok (.idiv, 1) := by decide +kernel
theorem dX3_lastPieceTo_40 : decode cX3_lastPieceTo 40 = .ok (.iload_n 1, 1) := by decide +kernel
theorem dX3_lastPieceTo_41 : decode cX3_lastPieceTo 41 = .ok (.invokevirtual 85, 3) := by decide +kernel
theorem dX3_lastPieceTo_44 : decode cX3_lastPieceTo 44 = .ok (.ifCond .eq 7, 3) := by decide +kernel
theorem dX3_lastPieceTo_47 : decode cX3_lastPieceTo 47 = .ok (.iload_n 3, 1) := by decide +kernel
theorem dX3_lastPieceTo_48 : decode cX3_lastPieceTo 48 = .ok (.iconst 2, 1) := by decide +kernel
theorem dX3_lastPieceTo_49 : decode cX3_lastPieceTo 49 = .ok (.idiv, 1) := by decide +kernel
theorem dX3_lastPieceTo_50 : decode cX3_lastPieceTo 50 = .ok (.istore_n 2, 1) := by decide +kernel
theorem dX3_lastPieceTo_51 : decode cX3_lastPieceTo 51 = .ok (.aload_n 0, 1) := by decide +kernel
theorem dX3_lastPieceTo_52 : decode cX3_lastPieceTo 52 = .ok (.getfield 32, 3) := by decide +kernel
theorem dX3_lastPieceTo_55 : decode cX3_lastPieceTo 55 = .ok (.getfield 89, 3) := by decide +kernel
theorem dX3_lastPieceTo_58 : decode cX3_lastPieceTo 58 = .ok (.iload_n 3, 1) := by decide +kernel
theorem dX3_lastPieceTo_59 : decode cX3_lastPieceTo 59 = .ok (.iaload, 1) := by decide +kernel
theorem dX3_lastPieceTo_60 : decode cX3_lastPieceTo 60 = .ok (.istore_n 3, 1) := by decide +kernel
theorem dX3_lastPieceTo_61 : decode cX3_lastPieceTo 61 = .ok (.iinc 4 (-1), 3) := by decide +kernel
theorem dX3_lastPieceTo_64 : decode cX3_lastPieceTo 64 = .ok (.goto (-38), 3) := by decide +kernel
theorem dX3_lastPieceTo_67 : decode cX3_lastPieceTo 67 = .ok (.iload_n 2, 1) := by decide +kernel
theorem dX3_lastPieceTo_68 : decode cX3_lastPieceTo 68 = .ok (.ireturn, 1) := by decide +kernel
set_option maxRecDepth 20000 in
theorem ggX3_bringsLeast_Jx4a65c_get_915e3 : GoodIn wsX3_bringsLeast wsJx4a65c_get_915e3 := goodIn_r _ [10, 11, 12, 13, 14, 15, 16, 17, 18, 19, 20, 21, 22, 9, 23, 24, 55, 56, 57] (by decide +kernel) (by decide +kernel)
set_option maxRecDepth 20000 in
theorem gX3_bringsLeast_Jx4a65c_get_915e3 : GoodIn wsX3_bringsLeast (wsV RX3 92 RJx4a65c yJx4a65c_get_915e3 wsJx4a65c_get_915e3) := goodIn_app (goodIn_of _ (by decide +kernel)) ggX3_bringsLeast_Jx4a65c_get_915e3
set_option maxRecDepth 20000 in
theorem ggX3_bringsLeast_X2_otherEnd : GoodIn wsX3_bringsLeast wsX2_otherEnd := goodIn_r _ [29, 30, 31, 58, 59, 60, 61, 62, 63, 64, 65, 66, 67, 68] (by decide +kernel) (by decide +kernel)
set_option maxRecDepth 20000 in
theorem gX3_bringsLeast_X2_otherEnd : GoodIn wsX3_bringsLeast (wsV RX3 98 RX2 yX2_otherEnd wsX2_otherEnd) := goodIn_app (goodIn_of _ (by decide +kernel)) ggX3_bringsLeast_X2_otherEnd
set_option maxRecDepth 20000 in
theorem ggX3_bringsLeast_X3_leastTo : GoodIn wsX3_bringsLeast wsX3_leastTo := goodIn_r _ [36, 37, 38, 39, 35, 40, 41, 42, 4, 43, 44, 45, 46, 47, 48, 49] (by decide +kernel) (by decide +kernel)
set_option maxRecDepth 20000 in
theorem gX3_bringsLeast_X3_leastTo : GoodIn wsX3_bringsLeast (wsV RX3 102 RX3 yX3_leastTo wsX3_leastTo) := goodIn_app (goodIn_of _ (by decide +kernel)) ggX3_bringsLeast_X3_leastTo
theorem dX3_bringsLeast_0 : decode cX3_bringsLeast 0 = .ok (.aload_n 0, 1) := by decide +kernel
theorem dX3_bringsLeast_1 : decode cX3_bringsLeast 1 = .ok (.aload_n 0, 1) := by decide +kernel
theorem dX3_bringsLeast_2 : decode cX3_bringsLeast 2 = .ok (.getfield 32, 3) := by decide +kernel
theorem dX3_bringsLeast_5 : decode cX3_bringsLeast 5 = .ok (.getfield 76, 3) := by decide +kernel
theorem dX3_bringsLeast_8 : decode cX3_bringsLeast 8 = .ok (.iload_n 1, 1) := by decide +kernel
theorem dX3_bringsLeast_9 : decode cX3_bringsLeast 9 = .ok (.invokevirtual 92, 3) := by decide +kernel
theorem dX3_bringsLeast_12 : decode cX3_bringsLeast 12 = .ok (.checkcast 96, 3) := by decide +kernel
theorem dX3_bringsLeast_15 : decode cX3_bringsLeast 15 = .ok (.iload_n 2, 1) := by decide +kernel
theorem dX3_bringsLeast_16 : decode cX3_bringsLeast 16 = .ok (.invokevirtual 98, 3) := by decide +kernel
theorem dX3_bringsLeast_19 : decode cX3_bringsLeast 19 = .ok (.invokevirtual 102, 3) := by decide +kernel
theorem dX3_bringsLeast_22 : decode cX3_bringsLeast 22 = .ok (.lstore_n 3, 1) := by decide +kernel
theorem dX3_bringsLeast_23 : decode cX3_bringsLeast 23 = .ok (.lload_n 3, 1) := by decide +kernel
theorem dX3_bringsLeast_24 : decode cX3_bringsLeast 24 = .ok (.ldc2_w 71, 3) := by decide +kernel
theorem dX3_bringsLeast_27 : decode cX3_bringsLeast 27 = .ok (.lcmp, 1) := by decide +kernel
theorem dX3_bringsLeast_28 : decode cX3_bringsLeast 28 = .ok (.ifCond .eq 37, 3) := by decide +kernel
theorem dX3_bringsLeast_31 : decode cX3_bringsLeast 31 = .ok (.aload_n 0, 1) := by decide +kernel
theorem dX3_bringsLeast_32 : decode cX3_bringsLeast 32 = .ok (.getfield 18, 3) := by decide +kernel
theorem dX3_bringsLeast_35 : decode cX3_bringsLeast 35 = .ok (.iload_n 1, 1) := by decide +kernel
theorem dX3_bringsLeast_36 : decode cX3_bringsLeast 36 = .ok (.laload, 1) := by decide +kernel
theorem dX3_bringsLeast_37 : decode cX3_bringsLeast 37 = .ok (.ldc2_w 71, 3) := by decide +kernel
theorem dX3_bringsLeast_40 : decode cX3_bringsLeast 40 = .ok (.lcmp, 1) := by decide +kernel
theorem dX3_bringsLeast_41 : decode cX3_bringsLeast 41 = .ok (.ifCond .eq 24, 3) := by decide +kernel
theorem dX3_bringsLeast_44 : decode cX3_bringsLeast 44 = .ok (.lload_n 3, 1) := by decide +kernel
theorem dX3_bringsLeast_45 : decode cX3_bringsLeast 45 = .ok (.aload_n 0, 1) := by decide +kernel
theorem dX3_bringsLeast_46 : decode cX3_bringsLeast 46 = .ok (.getfield 18, 3) := by decide +kernel
theorem dX3_bringsLeast_49 : decode cX3_bringsLeast 49 = .ok (.iload_n 1, 1) := by decide +kernel
theorem dX3_bringsLeast_50 : decode cX3_bringsLeast 50 = .ok (.laload, 1) := by decide +kernel
theorem dX3_bringsLeast_51 : decode cX3_bringsLeast 51 = .ok (.ladd, 1) := by decide +kernel
theorem dX3_bringsLeast_52 : decode cX3_bringsLeast 52 = .ok (.aload_n 0, 1) := by decide +kernel
theorem dX3_bringsLeast_53 : decode cX3_bringsLeast 53 = .ok (.iload_n 2, 1) := by decide +kernel
theorem dX3_bringsLeast_54 : decode cX3_bringsLeast 54 = .ok (.invokevirtual 102, 3) := by decide +kernel
theorem dX3_bringsLeast_57 : decode cX3_bringsLeast 57 = .ok (.lcmp, 1) := by decide +kernel
theorem dX3_bringsLeast_58 : decode cX3_bringsLeast 58 = .ok (.ifCond .ne 7, 3) := by decide +kernel
theorem dX3_bringsLeast_61 : decode cX3_bringsLeast 61 = .ok (.iconst 1, 1) := by decide +kernel
theorem dX3_bringsLeast_62 : decode cX3_bringsLeast 62 = .ok (.goto 4, 3) := by decide +kernel
theorem dX3_bringsLeast_65 : decode cX3_bringsLeast 65 = .ok (.iconst 0, 1) := by decide +kernel
theorem dX3_bringsLeast_66 : decode cX3_bringsLeast 66 = .ok (.ireturn, 1) := by decide +kernel
set_option maxRecDepth 20000 in
theorem ggX3_pricePieces_Jx4a65c_size_8abf5 : GoodIn wsX3_pricePieces wsJx4a65c_size_8abf5 := goodIn_r _ [11, 12, 80, 81, 82] (by decide +kernel) (by decide +kernel)
set_option maxRecDepth 20000 in
theorem gX3_pricePieces_Jx4a65c_size_8abf5 : GoodIn wsX3_pricePieces (wsV RX3 80 RJx4a65c yJx4a65c_size_8abf5 wsJx4a65c_size_8abf5) := goodIn_app (goodIn_of _ (by decide +kernel)) ggX3_pricePieces_Jx4a65c_size_8abf5
set_option maxRecDepth 20000 in
theorem ggX3_pricePieces_Jx4a65c_get_915e3 : GoodIn wsX3_pricePieces wsJx4a65c_get_915e3 := goodIn_r _ [16, 12, 17, 18, 19, 20, 21, 22, 23, 24, 25, 26, 27, 10, 28, 29, 80, 81, 82] (by decide +kernel) (by decide +kernel)
set_option maxRecDepth 20000 in
theorem gX3_pricePieces_Jx4a65c_get_915e3 : GoodIn wsX3_pricePieces (wsV RX3 92 RJx4a65c yJx4a65c_get_915e3 wsJx4a65c_get_915e3) := goodIn_app (goodIn_of _ (by decide +kernel)) ggX3_pricePieces_Jx4a65c_get_915e3
set_option maxRecDepth 20000 in
theorem ggX3_pricePieces_X2_letsPass : GoodIn wsX3_pricePieces wsX2_letsPass := goodIn_r _ [34, 35, 36, 37, 38, 39, 40, 69, 70, 71, 72, 73, 74, 75, 76, 77, 78, 79, 83, 84, 85, 86, 87] (by decide +kernel) (by decide +kernel)
set_option maxRecDepth 20000 in
theorem gX3_pricePieces_X2_letsPass : GoodIn wsX3_pricePieces (wsV RX3 106 RX2 yX2_letsPass wsX2_letsPass) := goodIn_app (goodIn_of _ (by decide +kernel)) ggX3_pricePieces_X2_letsPass
set_option maxRecDepth 20000 in
theorem ggX3_pricePieces_X2_secondsFor : GoodIn wsX3_pricePieces wsX2_secondsFor := goodIn_r _ [44, 36, 45, 46, 47, 48, 49, 50, 51, 33, 52, 53, 54, 55, 56, 69, 70, 71, 72, 73, 74, 75, 76, 77, 78, 79, 83, 84, 85, 86, 87] (by decide +kernel) (by decide +kernel)
set_option maxRecDepth 20000 in
theorem gX3_pricePieces_X2_secondsFor : GoodIn wsX3_pricePieces (wsV RX3 113 RX2 yX2_secondsFor wsX2_secondsFor) := goodIn_app (goodIn_of _ (by decide +kernel)) ggX3_pricePieces_X2_secondsFor
theorem dX3_pricePieces_0 : decode cX3_pricePieces 0 = .ok (.iconst 0, 1) := by decide +kernel
theorem dX3_pricePieces_1 : decode cX3_pricePieces 1 = .ok (.istore_n 3, 1) := by decide +kernel
theorem dX3_pricePieces_2 : decode cX3_pricePieces 2 = .ok (.iload_n 3, 1) := by decide +kernel
theorem dX3_pricePieces_3 : decode cX3_pricePieces 3 = .ok (.aload_n 0, 1) := by decide +kernel
theorem dX3_pricePieces_4 : decode cX3_pricePieces 4 = .ok (.getfield 32, 3) := by decide +kernel
theorem dX3_pricePieces_7 : decode cX3_pricePieces 7 = .ok (.getfield 76, 3) := by decide +kernel
theorem dX3_pricePieces_10 : decode cX3_pricePieces 10 = .ok (.invokevirtual 80, 3) := by decide +kernel
theorem dX3_pricePieces_13 : decode cX3_pricePieces 13 = .ok (.if_icmp .ge 58, 3) := by decide +kernel
theorem dX3_pricePieces_16 : decode cX3_pricePieces 16 = .ok (.aload_n 0, 1) := by decide +kernel
theorem dX3_pricePieces_17 : decode cX3_pricePieces 17 = .ok (.getfield 32, 3) := by decide +kernel
theorem dX3_pricePieces_20 : decode cX3_pricePieces 20 = .ok (.getfield 76, 3) := by decide +kernel
theorem dX3_pricePieces_23 : decode cX3_pricePieces 23 = .ok (.iload_n 3, 1) := by decide +kernel
theorem dX3_pricePieces_24 : decode cX3_pricePieces 24 = .ok (.invokevirtual 92, 3) := by decide +kernel
theorem dX3_pricePieces_27 : decode cX3_pricePieces 27 = .ok (.checkcast 96, 3) := by decide +kernel
theorem dX3_pricePieces_30 : decode cX3_pricePieces 30 = .ok (.astore 4, 2) := by decide +kernel
theorem dX3_pricePieces_32 : decode cX3_pricePieces 32 = .ok (.aload_n 0, 1) := by decide +kernel
theorem dX3_pricePieces_33 : decode cX3_pricePieces 33 = .ok (.getfield 18, 3) := by decide +kernel
theorem dX3_pricePieces_36 : decode cX3_pricePieces 36 = .ok (.iload_n 3, 1) := by decide +kernel
theorem dX3_pricePieces_37 : decode cX3_pricePieces 37 = .ok (.aload 4, 2) := by decide +kernel
theorem dX3_pricePieces_39 : decode cX3_pricePieces 39 = .ok (.aload_n 1, 1) := by decide +kernel
theorem dX3_pricePieces_40 : decode cX3_pricePieces 40 = .ok (.invokevirtual 106, 3) := by decide +kernel
theorem dX3_pricePieces_43 : decode cX3_pricePieces 43 = .ok (.ifCond .eq 18, 3) := by decide +kernel
theorem dX3_pricePieces_46 : decode cX3_pricePieces 46 = .ok (.aload 4, 2) := by decide +kernel
theorem dX3_pricePieces_48 : decode cX3_pricePieces 48 = .ok (.aload_n 1, 1) := by decide +kernel
theorem dX3_pricePieces_49 : decode cX3_pricePieces 49 = .ok (.aload 4, 2) := by decide +kernel
theorem dX3_pricePieces_51 : decode cX3_pricePieces 51 = .ok (.getfield 110, 3) := by decide +kernel
theorem dX3_pricePieces_54 : decode cX3_pricePieces 54 = .ok (.iload_n 2, 1) := by decide +kernel
theorem dX3_pricePieces_55 : decode cX3_pricePieces 55 = .ok (.invokevirtual 113, 3) := by decide +kernel
theorem dX3_pricePieces_58 : decode cX3_pricePieces 58 = .ok (.goto 6, 3) := by decide +kernel
theorem dX3_pricePieces_61 : decode cX3_pricePieces 61 = .ok (.ldc2_w 71, 3) := by decide +kernel
theorem dX3_pricePieces_64 : decode cX3_pricePieces 64 = .ok (.lastore, 1) := by decide +kernel
theorem dX3_pricePieces_65 : decode cX3_pricePieces 65 = .ok (.iinc 3 1, 3) := by decide +kernel
theorem dX3_pricePieces_68 : decode cX3_pricePieces 68 = .ok (.goto (-66), 3) := by decide +kernel
theorem dX3_pricePieces_71 : decode cX3_pricePieces 71 = .ok (.return_, 1) := by decide +kernel
set_option maxRecDepth 20000 in
theorem ggX3_settle_X1_put : GoodIn wsX3_settle wsX1_put := goodIn_r _ [16, 17, 18, 19, 20, 69, 70, 71, 72] (by decide +kernel) (by decide +kernel)
set_option maxRecDepth 20000 in
theorem gX3_settle_X1_put : GoodIn wsX3_settle (wsV RX3 117 RX1 yX1_put wsX1_put) := goodIn_app (goodIn_of _ (by decide +kernel)) ggX3_settle_X1_put
set_option maxRecDepth 20000 in
theorem ggX3_settle_Jx4a65c_size_8abf5 : GoodIn wsX3_settle wsJx4a65c_size_8abf5 := goodIn_r _ [25, 26, 73, 74, 75] (by decide +kernel) (by decide +kernel)
set_option maxRecDepth 20000 in
theorem gX3_settle_Jx4a65c_size_8abf5 : GoodIn wsX3_settle (wsV RX3 80 RJx4a65c yJx4a65c_size_8abf5 wsJx4a65c_size_8abf5) := goodIn_app (goodIn_of _ (by decide +kernel)) ggX3_settle_Jx4a65c_size_8abf5
set_option maxRecDepth 20000 in
theorem ggX3_settle_Jx4a65c_get_915e3 : GoodIn wsX3_settle wsJx4a65c_get_915e3 := goodIn_r _ [30, 26, 31, 32, 33, 34, 35, 36, 37, 38, 39, 40, 41, 24, 42, 43, 73, 74, 75] (by decide +kernel) (by decide +kernel)
set_option maxRecDepth 20000 in
theorem gX3_settle_Jx4a65c_get_915e3 : GoodIn wsX3_settle (wsV RX3 92 RJx4a65c yJx4a65c_get_915e3 wsJx4a65c_get_915e3) := goodIn_app (goodIn_of _ (by decide +kernel)) ggX3_settle_Jx4a65c_get_915e3
set_option maxRecDepth 20000 in
theorem ggX3_settle_X2_otherEnd : GoodIn wsX3_settle wsX2_otherEnd := goodIn_r _ [48, 49, 50, 76, 77, 78, 79, 80, 81, 82, 83, 84, 85, 86] (by decide +kernel) (by decide +kernel)
set_option maxRecDepth 20000 in
theorem gX3_settle_X2_otherEnd : GoodIn wsX3_settle (wsV RX3 98 RX2 yX2_otherEnd wsX2_otherEnd) := goodIn_app (goodIn_of _ (by decide +kernel)) ggX3_settle_X2_otherEnd
set_option maxRecDepth 20000 in
theorem ggX3_settle_X3_offer : GoodIn wsX3_settle wsX3_offer := goodIn_r _ [55, 3, 56, 1, 2, 4, 12, 13, 14, 15, 16, 17, 18, 19, 20, 57, 58, 59, 60, 61, 62, 63, 69, 70, 71, 72] (by decide +kernel) (by decide +kernel)
set_option maxRecDepth 20000 in
theorem gX3_settle_X3_offer : GoodIn wsX3_settle (wsV RX3 50 RX3 yX3_offer wsX3_offer) := goodIn_app (goodIn_of _ (by decide +kernel)) ggX3_settle_X3_offer
theorem dX3_settle_0 : decode cX3_settle 0 = .ok (.iload_n 1, 1) := by decide +kernel
theorem dX3_settle_1 : decode cX3_settle 1 = .ok (.bipush 6, 2) := by decide +kernel
theorem dX3_settle_3 : decode cX3_settle 3 = .ok (.imul, 1) := by decide +kernel
theorem dX3_settle_4 : decode cX3_settle 4 = .ok (.istore_n 2, 1) := by decide +kernel
theorem dX3_settle_5 : decode cX3_settle 5 = .ok (.aload_n 0, 1) := by decide +kernel
theorem dX3_settle_6 : decode cX3_settle 6 = .ok (.getfield 22, 3) := by decide +kernel
theorem dX3_settle_9 : decode cX3_settle 9 = .ok (.iload_n 2, 1) := by decide +kernel
theorem dX3_settle_10 : decode cX3_settle 10 = .ok (.aload_n 0, 1) := by decide +kernel
theorem dX3_settle_11 : decode cX3_settle 11 = .ok (.getfield 29, 3) := by decide +kernel
theorem dX3_settle_14 : decode cX3_settle 14 = .ok (.iload_n 1, 1) := by decide +kernel
theorem dX3_settle_15 : decode cX3_settle 15 = .ok (.iaload, 1) := by decide +kernel
theorem dX3_settle_16 : decode cX3_settle 16 = .ok (.iadd, 1) := by decide +kernel
theorem dX3_settle_17 : decode cX3_settle 17 = .ok (.laload, 1) := by decide +kernel
theorem dX3_settle_18 : decode cX3_settle 18 = .ok (.lstore_n 3, 1) := by decide +kernel
theorem dX3_settle_19 : decode cX3_settle 19 = .ok (.aload_n 0, 1) := by decide +kernel
theorem dX3_settle_20 : decode cX3_settle 20 = .ok (.getfield 29, 3) := by decide +kernel
theorem dX3_settle_23 : decode cX3_settle 23 = .ok (.iload_n 1, 1) := by decide +kernel
theorem dX3_settle_24 : decode cX3_settle 24 = .ok (.dup2, 1) := by decide +kernel
theorem dX3_settle_25 : decode cX3_settle 25 = .ok (.iaload, 1) := by decide +kernel
theorem dX3_settle_26 : decode cX3_settle 26 = .ok (.iconst 1, 1) := by decide +kernel
theorem dX3_settle_27 : decode cX3_settle 27 = .ok (.iadd, 1) := by decide +kernel
theorem dX3_settle_28 : decode cX3_settle 28 = .ok (.iastore, 1) := by decide +kernel
theorem dX3_settle_29 : decode cX3_settle 29 = .ok (.aload_n 0, 1) := by decide +kernel
theorem dX3_settle_30 : decode cX3_settle 30 = .ok (.getfield 29, 3) := by decide +kernel
theorem dX3_settle_33 : decode cX3_settle 33 = .ok (.iload_n 1, 1) := by decide +kernel
theorem dX3_settle_34 : decode cX3_settle 34 = .ok (.iaload, 1) := by decide +kernel
theorem dX3_settle_35 : decode cX3_settle 35 = .ok (.aload_n 0, 1) := by decide +kernel
theorem dX3_settle_36 : decode cX3_settle 36 = .ok (.getfield 25, 3) := by decide +kernel
theorem dX3_settle_39 : decode cX3_settle 39 = .ok (.iload_n 1, 1) := by decide +kernel
theorem dX3_settle_40 : decode cX3_settle 40 = .ok (.iaload, 1) := by decide +kernel
theorem dX3_settle_41 : decode cX3_settle 41 = .ok (.if_icmp .ge 24, 3) := by decide +kernel
theorem dX3_settle_44 : decode cX3_settle 44 = .ok (.aload_n 0, 1) := by decide +kernel
theorem dX3_settle_45 : decode cX3_settle 45 = .ok (.getfield 12, 3) := by decide +kernel
theorem dX3_settle_48 : decode cX3_settle 48 = .ok (.iload_n 1, 1) := by decide +kernel
theorem dX3_settle_49 : decode cX3_settle 49 = .ok (.aload_n 0, 1) := by decide +kernel
theorem dX3_settle_50 : decode cX3_settle 50 = .ok (.getfield 22, 3) := by decide +kernel
theorem dX3_settle_53 : decode cX3_settle 53 = .ok (.iload_n 2, 1) := by decide +kernel
theorem dX3_settle_54 : decode cX3_settle 54 = .ok (.aload_n 0, 1) := by decide +kernel
theorem dX3_settle_55 : decode cX3_settle 55 = .ok (.getfield 29, 3) := by decide +kernel
theorem dX3_settle_58 : decode cX3_settle 58 = .ok (.iload_n 1, 1) := by decide +kernel
theorem dX3_settle_59 : decode cX3_settle 59 = .ok (.iaload, 1) := by decide +kernel
theorem dX3_settle_60 : decode cX3_settle 60 = .ok (.iadd, 1) := by decide +kernel
theorem dX3_settle_61 : decode cX3_settle 61 = .ok (.laload, 1) := by decide +kernel
theorem dX3_settle_62 : decode cX3_settle 62 = .ok (.invokevirtual 117, 3) := by decide +kernel
theorem dX3_settle_65 : decode cX3_settle 65 = .ok (.aload_n 0, 1) := by decide +kernel
theorem dX3_settle_66 : decode cX3_settle 66 = .ok (.getfield 32, 3) := by decide +kernel
theorem dX3_settle_69 : decode cX3_settle 69 = .ok (.getfield 73, 3) := by decide +kernel
theorem dX3_settle_72 : decode cX3_settle 72 = .ok (.iload_n 1, 1) := by decide +kernel
theorem dX3_settle_73 : decode cX3_settle 73 = .ok (.iaload, 1) := by decide +kernel
theorem dX3_settle_74 : decode cX3_settle 74 = .ok (.istore 5, 2) := by decide +kernel
theorem dX3_settle_76 : decode cX3_settle 76 = .ok (.iconst 2, 1) := by decide +kernel
theorem dX3_settle_77 : decode cX3_settle 77 = .ok (.aload_n 0, 1) := by decide +kernel
theorem dX3_settle_78 : decode cX3_settle 78 = .ok (.getfield 32, 3) := by decide +kernel
theorem dX3_settle_81 : decode cX3_settle 81 = .ok (.getfield 76, 3) := by decide +kernel
theorem dX3_settle_84 : decode cX3_settle 84 = .ok (.invokevirtual 80, 3) := by decide +kernel
theorem dX3_settle_87 : decode cX3_settle 87 = .ok (.imul, 1) := by decide +kernel
theorem dX3_settle_88 : decode cX3_settle 88 = .ok (.istore 6, 2) := by decide +kernel
theorem dX3_settle_90 : decode cX3_settle 90 = .ok (.iload 6, 2) := by decide +kernel
theorem dX3_settle_92 : decode cX3_settle 92 = .ok (.ifCond .le 79, 3) := by decide +kernel
theorem dX3_settle_95 : decode cX3_settle 95 = .ok (.iload 5, 2) := by decide +kernel
theorem dX3_settle_97 : decode cX3_settle 97 = .ok (.iconst (-1), 1) := by decide +kernel
theorem dX3_settle_98 : decode cX3_settle 98 = .ok (.if_icmp .eq 73, 3) := by decide +kernel
theorem dX3_settle_101 : decode cX3_settle 101 = .ok (.iload 5, 2) := by decide +kernel
theorem dX3_settle_103 : decode cX3_settle 103 = .ok (.iconst 2, 1) := by decide +kernel
theorem dX3_settle_104 : decode cX3_settle 104 = .ok (.idiv, 1) := by decide +kernel
theorem dX3_settle_105 : decode cX3_settle 105 = .ok (.istore 7, 2) := by decide +kernel
theorem dX3_settle_107 : decode cX3_settle 107 = .ok (.aload_n 0, 1) := by decide +kernel
theorem dX3_settle_108 : decode cX3_settle 108 = .ok (.getfield 18, 3) := by decide +kernel
theorem dX3_settle_111 : decode cX3_settle 111 = .ok (.iload 7, 2) := by decide +kernel
theorem dX3_settle_113 : decode cX3_settle 113 = .ok (.laload, 1) := by decide +kernel
theorem dX3_settle_114 : decode cX3_settle 114 = .ok (.ldc2_w 71, 3) := by decide +kernel
theorem dX3_settle_117 : decode cX3_settle 117 = .ok (.lcmp, 1) := by decide +kernel
theorem dX3_settle_118 : decode cX3_settle 118 = .ok (.ifCond .eq 35, 3) := by decide +kernel
theorem dX3_settle_121 : decode cX3_settle 121 = .ok (.aload_n 0, 1) := by decide +kernel
theorem dX3_settle_122 : decode cX3_settle 122 = .ok (.aload_n 0, 1) := by decide +kernel
theorem dX3_settle_123 : decode cX3_settle 123 = .ok (.getfield 32, 3) := by decide +kernel
theorem dX3_settle_126 : decode cX3_settle 126 = .ok (.getfield 76, 3) := by decide +kernel
theorem dX3_settle_129 : decode cX3_settle 129 = .ok (.iload 7, 2) := by decide +kernel
theorem dX3_settle_131 : decode cX3_settle 131 = .ok (.invokevirtual 92, 3) := by decide +kernel
theorem dX3_settle_134 : decode cX3_settle 134 = .ok (.checkcast 96, 3) := by decide +kernel
theorem dX3_settle_137 : decode cX3_settle 137 = .ok (.iload_n 1, 1) := by decide +kernel
theorem dX3_settle_138 : decode cX3_settle 138 = .ok (.invokevirtual 98, 3) := by decide +kernel
theorem dX3_settle_141 : decode cX3_settle 141 = .ok (.lload_n 3, 1) := by decide +kernel
theorem dX3_settle_142 : decode cX3_settle 142 = .ok (.aload_n 0, 1) := by decide +kernel
theorem dX3_settle_143 : decode cX3_settle 143 = .ok (.getfield 18, 3) := by decide +kernel
theorem dX3_settle_146 : decode cX3_settle 146 = .ok (.iload 7, 2) := by decide +kernel
theorem dX3_settle_148 : decode cX3_settle 148 = .ok (.laload, 1) := by decide +kernel
theorem dX3_settle_149 : decode cX3_settle 149 = .ok (.ladd, 1) := by decide +kernel
theorem dX3_settle_150 : decode cX3_settle 150 = .ok (.invokevirtual 50, 3) := by decide +kernel
theorem dX3_settle_153 : decode cX3_settle 153 = .ok (.aload_n 0, 1) := by decide +kernel
theorem dX3_settle_154 : decode cX3_settle 154 = .ok (.getfield 32, 3) := by decide +kernel
theorem dX3_settle_157 : decode cX3_settle 157 = .ok (.getfield 89, 3) := by decide +kernel
theorem dX3_settle_160 : decode cX3_settle 160 = .ok (.iload 5, 2) := by decide +kernel
theorem dX3_settle_162 : decode cX3_settle 162 = .ok (.iaload, 1) := by decide +kernel
theorem dX3_settle_163 : decode cX3_settle 163 = .ok (.istore 5, 2) := by decide +kernel
theorem dX3_settle_165 : decode cX3_settle 165 = .ok (.iinc 6 (-1), 3) := by decide +kernel
theorem dX3_settle_168 : decode cX3_settle 168 = .ok (.goto (-78), 3) := by decide +kernel
theorem dX3_settle_171 : decode cX3_settle 171 = .ok (.return_, 1) := by decide +kernel
set_option maxRecDepth 20000 in
theorem ggX3_offer_X1_put : GoodIn wsX3_offer wsX1_put := goodIn_r _ [10, 11, 12, 13, 14, 22, 23, 24, 25] (by decide +kernel) (by decide +kernel)
set_option maxRecDepth 20000 in
theorem gX3_offer_X1_put : GoodIn wsX3_offer (wsV RX3 117 RX1 yX1_put wsX1_put) := goodIn_app (goodIn_of _ (by decide +kernel)) ggX3_offer_X1_put
theorem dX3_offer_0 : decode cX3_offer 0 = .ok (.iload_n 1, 1) := by decide +kernel
theorem dX3_offer_1 : decode cX3_offer 1 = .ok (.bipush 6, 2) := by decide +kernel
theorem dX3_offer_3 : decode cX3_offer 3 = .ok (.imul, 1) := by decide +kernel
theorem dX3_offer_4 : decode cX3_offer 4 = .ok (.istore 4, 2) := by decide +kernel
theorem dX3_offer_6 : decode cX3_offer 6 = .ok (.aload_n 0, 1) := by decide +kernel
theorem dX3_offer_7 : decode cX3_offer 7 = .ok (.getfield 25, 3) := by decide +kernel
theorem dX3_offer_10 : decode cX3_offer 10 = .ok (.iload_n 1, 1) := by decide +kernel
theorem dX3_offer_11 : decode cX3_offer 11 = .ok (.iaload, 1) := by decide +kernel
theorem dX3_offer_12 : decode cX3_offer 12 = .ok (.aload_n 0, 1) := by decide +kernel
theorem dX3_offer_13 : decode cX3_offer 13 = .ok (.getfield 36, 3) := by decide +kernel
theorem dX3_offer_16 : decode cX3_offer 16 = .ok (.if_icmp .lt 35, 3) := by decide +kernel
theorem dX3_offer_19 : decode cX3_offer 19 = .ok (.lload_n 2, 1) := by decide +kernel
theorem dX3_offer_20 : decode cX3_offer 20 = .ok (.aload_n 0, 1) := by decide +kernel
theorem dX3_offer_21 : decode cX3_offer 21 = .ok (.getfield 22, 3) := by decide +kernel
theorem dX3_offer_24 : decode cX3_offer 24 = .ok (.iload 4, 2) := by decide +kernel
theorem dX3_offer_26 : decode cX3_offer 26 = .ok (.aload_n 0, 1) := by decide +kernel
theorem dX3_offer_27 : decode cX3_offer 27 = .ok (.getfield 36, 3) := by decide +kernel
theorem dX3_offer_30 : decode cX3_offer 30 = .ok (.iadd, 1) := by decide +kernel
theorem dX3_offer_31 : decode cX3_offer 31 = .ok (.iconst 1, 1) := by decide +kernel
theorem dX3_offer_32 : decode cX3_offer 32 = .ok (.isub, 1) := by decide +kernel
