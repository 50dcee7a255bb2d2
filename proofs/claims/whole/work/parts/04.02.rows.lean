theorem dX6_nearest_82 : decode cX6_nearest 82 = .ok (.lcmp, 1) := by decide +kernel
theorem dX6_nearest_83 : decode cX6_nearest 83 = .ok (.ifCond .eq 23, 3) := by decide +kernel
theorem dX6_nearest_86 : decode cX6_nearest 86 = .ok (.iload_n 3, 1) := by decide +kernel
theorem dX6_nearest_87 : decode cX6_nearest 87 = .ok (.iconst (-1), 1) := by decide +kernel
theorem dX6_nearest_88 : decode cX6_nearest 88 = .ok (.if_icmp .eq 11, 3) := by decide +kernel
theorem dX6_nearest_91 : decode cX6_nearest 91 = .ok (.lload 8, 2) := by decide +kernel
theorem dX6_nearest_93 : decode cX6_nearest 93 = .ok (.lload 4, 2) := by decide +kernel
theorem dX6_nearest_95 : decode cX6_nearest 95 = .ok (.lcmp, 1) := by decide +kernel
theorem dX6_nearest_96 : decode cX6_nearest 96 = .ok (.ifCond .ge 10, 3) := by decide +kernel
theorem dX6_nearest_99 : decode cX6_nearest 99 = .ok (.iload 6, 2) := by decide +kernel
theorem dX6_nearest_101 : decode cX6_nearest 101 = .ok (.istore_n 3, 1) := by decide +kernel
theorem dX6_nearest_102 : decode cX6_nearest 102 = .ok (.lload 8, 2) := by decide +kernel
theorem dX6_nearest_104 : decode cX6_nearest 104 = .ok (.lstore 4, 2) := by decide +kernel
theorem dX6_nearest_106 : decode cX6_nearest 106 = .ok (.iinc 6 1, 3) := by decide +kernel
theorem dX6_nearest_109 : decode cX6_nearest 109 = .ok (.goto (-90), 3) := by decide +kernel
theorem dX6_nearest_112 : decode cX6_nearest 112 = .ok (.iload_n 3, 1) := by decide +kernel
theorem dX6_nearest_113 : decode cX6_nearest 113 = .ok (.ireturn, 1) := by decide +kernel
set_option maxRecDepth 20000 in
theorem ggX6_keep_X6_needNode : GoodIn wsX6_keep wsX6_needNode := goodIn_ca (goodIn_r _ [9, 1, 2, 10, 11, 160, 161, 162, 163, 164, 165, 166, 167, 168, 169] (by decide +kernel) (by decide +kernel)) (goodIn_sub (fun _ h => List.mem_cons_of_mem _ (List.mem_append_left _ (List.mem_append_right _ h))) (by decide +kernel))
set_option maxRecDepth 20000 in
theorem gX6_keep_X6_needNode : GoodIn wsX6_keep (wsV RX6 59 RX6 yX6_needNode wsX6_needNode) := goodIn_app (goodIn_of _ (by decide +kernel)) ggX6_keep_X6_needNode
set_option maxRecDepth 20000 in
theorem ggX6_keep_X6_knownUnit : GoodIn wsX6_keep wsX6_knownUnit := goodIn_ca (goodIn_r _ [15, 1, 2, 10, 16, 17, 18, 19, 20, 21, 22, 23, 24, 25, 26, 27, 28, 29, 30, 31, 32, 33, 34, 35, 36, 37, 38, 39, 40, 160, 161, 162, 163, 164, 165, 166, 167, 168, 169, 170, 171, 172] (by decide +kernel) (by decide +kernel)) (goodIn_sub (fun _ h => List.mem_cons_of_mem _ (List.mem_append_left _ (List.mem_append_right _ h))) (by decide +kernel))
set_option maxRecDepth 20000 in
theorem gX6_keep_X6_knownUnit : GoodIn wsX6_keep (wsV RX6 140 RX6 yX6_knownUnit wsX6_knownUnit) := goodIn_app (goodIn_of _ (by decide +kernel)) ggX6_keep_X6_knownUnit
set_option maxRecDepth 20000 in
theorem ggX6_keep_X6_needTime : GoodIn wsX6_keep wsX6_needTime := goodIn_ca (goodIn_r _ [43, 44, 45, 46, 8, 47, 48, 49] (by decide +kernel) (by decide +kernel)) (goodIn_sub (fun _ h => List.mem_cons_of_mem _ (List.mem_append_right _ h)) (by decide +kernel))
set_option maxRecDepth 20000 in
theorem gX6_keep_X6_needTime : GoodIn wsX6_keep (va_wsS RX6 147 yX6_needTime wsX6_needTime) := goodIn_app (goodIn_of _ (by decide +kernel)) ggX6_keep_X6_needTime
set_option maxRecDepth 20000 in
theorem ggX6_keep_X4_plant : GoodIn wsX6_keep wsX4_plant := goodIn_r _ [54, 55, 56, 57, 173, 174, 175, 176] (by decide +kernel) (by decide +kernel)
set_option maxRecDepth 20000 in
theorem gX6_keep_X4_plant : GoodIn wsX6_keep (wsV RX6 208 RX4 yX4_plant wsX4_plant) := goodIn_app (goodIn_of _ (by decide +kernel)) ggX6_keep_X4_plant
set_option maxRecDepth 20000 in
theorem ggX6_keep_X4_redo : GoodIn wsX6_keep wsX4_redo := goodIn_r _ [61, 56, 55, 57, 62, 63, 64, 65, 66, 67, 68, 69, 70, 71, 72, 73, 74, 75, 76, 77, 78, 79, 80, 81, 82, 83, 84, 85, 86, 87, 88, 89, 19, 20, 21, 22, 23, 90, 25, 26, 27, 28, 29, 30, 31, 32, 33, 34, 35, 36, 37, 38, 39, 40, 91, 92, 93, 94, 95, 96, 97, 98, 99, 100, 101, 102, 103, 104, 105, 106, 107, 108, 109, 110, 111, 112, 113, 114, 115, 116, 117, 118, 119, 120, 121, 122, 123, 124, 125, 126, 127, 128, 129, 130, 131, 132, 133, 134, 135, 136, 137, 138, 139, 140, 141, 142, 143, 144, 145, 146, 147, 148, 149, 150, 151, 152, 153, 154, 155, 156, 157, 158, 159, 173, 174, 175, 176, 177, 178, 179, 180, 181, 182, 183, 165, 166, 167, 168, 169, 184, 185, 186, 187, 188, 189, 190, 191, 192, 193, 194, 170, 171, 172, 195, 196, 197, 198, 199, 200, 201, 202, 203] (by decide +kernel) (by decide +kernel)
set_option maxRecDepth 20000 in
theorem gX6_keep_X4_redo : GoodIn wsX6_keep (wsV RX6 212 RX4 yX4_redo wsX4_redo) := goodIn_app (goodIn_of _ (by decide +kernel)) ggX6_keep_X4_redo
theorem dX6_keep_0 : decode cX6_keep 0 = .ok (.iload_n 1, 1) := by decide +kernel
theorem dX6_keep_1 : decode cX6_keep 1 = .ok (.ifCond .lt 9, 3) := by decide +kernel
theorem dX6_keep_4 : decode cX6_keep 4 = .ok (.iload_n 1, 1) := by decide +kernel
theorem dX6_keep_5 : decode cX6_keep 5 = .ok (.bipush 6, 2) := by decide +kernel
theorem dX6_keep_7 : decode cX6_keep 7 = .ok (.if_icmp .lt 13, 3) := by decide +kernel
theorem dX6_keep_10 : decode cX6_keep 10 = .ok (.new 36, 3) := by decide +kernel
theorem dX6_keep_13 : decode cX6_keep 13 = .ok (.dup, 1) := by decide +kernel
theorem dX6_keep_14 : decode cX6_keep 14 = .ok (.ldc 206, 2) := by decide +kernel
theorem dX6_keep_16 : decode cX6_keep 16 = .ok (.invokespecial 40, 3) := by decide +kernel
theorem dX6_keep_19 : decode cX6_keep 19 = .ok (.athrow, 1) := by decide +kernel
theorem dX6_keep_20 : decode cX6_keep 20 = .ok (.aload_n 0, 1) := by decide +kernel
theorem dX6_keep_21 : decode cX6_keep 21 = .ok (.iload_n 2, 1) := by decide +kernel
theorem dX6_keep_22 : decode cX6_keep 22 = .ok (.invokevirtual 59, 3) := by decide +kernel
theorem dX6_keep_25 : decode cX6_keep 25 = .ok (.aload_n 0, 1) := by decide +kernel
theorem dX6_keep_26 : decode cX6_keep 26 = .ok (.iload_n 3, 1) := by decide +kernel
theorem dX6_keep_27 : decode cX6_keep 27 = .ok (.invokevirtual 140, 3) := by decide +kernel
theorem dX6_keep_30 : decode cX6_keep 30 = .ok (.astore 5, 2) := by decide +kernel
theorem dX6_keep_32 : decode cX6_keep 32 = .ok (.iload 4, 2) := by decide +kernel
theorem dX6_keep_34 : decode cX6_keep 34 = .ok (.invokestatic 147, 3) := by decide +kernel
theorem dX6_keep_37 : decode cX6_keep 37 = .ok (.aload_n 0, 1) := by decide +kernel
theorem dX6_keep_38 : decode cX6_keep 38 = .ok (.getfield 27, 3) := by decide +kernel
theorem dX6_keep_41 : decode cX6_keep 41 = .ok (.iload_n 1, 1) := by decide +kernel
theorem dX6_keep_42 : decode cX6_keep 42 = .ok (.aaload, 1) := by decide +kernel
theorem dX6_keep_43 : decode cX6_keep 43 = .ok (.iload_n 2, 1) := by decide +kernel
theorem dX6_keep_44 : decode cX6_keep 44 = .ok (.aload 5, 2) := by decide +kernel
theorem dX6_keep_46 : decode cX6_keep 46 = .ok (.iload 4, 2) := by decide +kernel
theorem dX6_keep_48 : decode cX6_keep 48 = .ok (.invokevirtual 208, 3) := by decide +kernel
theorem dX6_keep_51 : decode cX6_keep 51 = .ok (.aload_n 0, 1) := by decide +kernel
theorem dX6_keep_52 : decode cX6_keep 52 = .ok (.getfield 27, 3) := by decide +kernel
theorem dX6_keep_55 : decode cX6_keep 55 = .ok (.iload_n 1, 1) := by decide +kernel
theorem dX6_keep_56 : decode cX6_keep 56 = .ok (.aaload, 1) := by decide +kernel
theorem dX6_keep_57 : decode cX6_keep 57 = .ok (.aload_n 0, 1) := by decide +kernel
theorem dX6_keep_58 : decode cX6_keep 58 = .ok (.getfield 21, 3) := by decide +kernel
theorem dX6_keep_61 : decode cX6_keep 61 = .ok (.invokevirtual 212, 3) := by decide +kernel
theorem dX6_keep_64 : decode cX6_keep 64 = .ok (.pop, 1) := by decide +kernel
theorem dX6_keep_65 : decode cX6_keep 65 = .ok (.return_, 1) := by decide +kernel
theorem dX6_kept_0 : decode cX6_kept 0 = .ok (.iload_n 1, 1) := by decide +kernel
theorem dX6_kept_1 : decode cX6_kept 1 = .ok (.ifCond .lt 21, 3) := by decide +kernel
theorem dX6_kept_4 : decode cX6_kept 4 = .ok (.iload_n 1, 1) := by decide +kernel
theorem dX6_kept_5 : decode cX6_kept 5 = .ok (.bipush 6, 2) := by decide +kernel
theorem dX6_kept_7 : decode cX6_kept 7 = .ok (.if_icmp .ge 15, 3) := by decide +kernel
theorem dX6_kept_10 : decode cX6_kept 10 = .ok (.aload_n 0, 1) := by decide +kernel
theorem dX6_kept_11 : decode cX6_kept 11 = .ok (.getfield 27, 3) := by decide +kernel
theorem dX6_kept_14 : decode cX6_kept 14 = .ok (.iload_n 1, 1) := by decide +kernel
theorem dX6_kept_15 : decode cX6_kept 15 = .ok (.aaload, 1) := by decide +kernel
theorem dX6_kept_16 : decode cX6_kept 16 = .ok (.getfield 216, 3) := by decide +kernel
theorem dX6_kept_19 : decode cX6_kept 19 = .ok (.ifnonnull 13, 3) := by decide +kernel
theorem dX6_kept_22 : decode cX6_kept 22 = .ok (.new 36, 3) := by decide +kernel
theorem dX6_kept_25 : decode cX6_kept 25 = .ok (.dup, 1) := by decide +kernel
theorem dX6_kept_26 : decode cX6_kept 26 = .ok (.ldc 220, 2) := by decide +kernel
theorem dX6_kept_28 : decode cX6_kept 28 = .ok (.invokespecial 40, 3) := by decide +kernel
theorem dX6_kept_31 : decode cX6_kept 31 = .ok (.athrow, 1) := by decide +kernel
theorem dX6_kept_32 : decode cX6_kept 32 = .ok (.iload_n 2, 1) := by decide +kernel
theorem dX6_kept_33 : decode cX6_kept 33 = .ok (.ifCond .lt 14, 3) := by decide +kernel
theorem dX6_kept_36 : decode cX6_kept 36 = .ok (.iload_n 2, 1) := by decide +kernel
theorem dX6_kept_37 : decode cX6_kept 37 = .ok (.aload_n 0, 1) := by decide +kernel
theorem dX6_kept_38 : decode cX6_kept 38 = .ok (.getfield 10, 3) := by decide +kernel
theorem dX6_kept_41 : decode cX6_kept 41 = .ok (.getfield 222, 3) := by decide +kernel
theorem dX6_kept_44 : decode cX6_kept 44 = .ok (.if_icmp .lt 13, 3) := by decide +kernel
theorem dX6_kept_47 : decode cX6_kept 47 = .ok (.new 225, 3) := by decide +kernel
theorem dX6_kept_50 : decode cX6_kept 50 = .ok (.dup, 1) := by decide +kernel
theorem dX6_kept_51 : decode cX6_kept 51 = .ok (.ldc 227, 2) := by decide +kernel
theorem dX6_kept_53 : decode cX6_kept 53 = .ok (.invokespecial 229, 3) := by decide +kernel
theorem dX6_kept_56 : decode cX6_kept 56 = .ok (.athrow, 1) := by decide +kernel
theorem dX6_kept_57 : decode cX6_kept 57 = .ok (.aload_n 0, 1) := by decide +kernel
theorem dX6_kept_58 : decode cX6_kept 58 = .ok (.getfield 27, 3) := by decide +kernel
theorem dX6_kept_61 : decode cX6_kept 61 = .ok (.iload_n 1, 1) := by decide +kernel
theorem dX6_kept_62 : decode cX6_kept 62 = .ok (.aaload, 1) := by decide +kernel
theorem dX6_kept_63 : decode cX6_kept 63 = .ok (.getfield 230, 3) := by decide +kernel
theorem dX6_kept_66 : decode cX6_kept 66 = .ok (.iload_n 2, 1) := by decide +kernel
theorem dX6_kept_67 : decode cX6_kept 67 = .ok (.laload, 1) := by decide +kernel
theorem dX6_kept_68 : decode cX6_kept 68 = .ok (.lreturn, 1) := by decide +kernel
theorem dX6_needNode_0 : decode cX6_needNode 0 = .ok (.iload_n 1, 1) := by decide +kernel
theorem dX6_needNode_1 : decode cX6_needNode 1 = .ok (.ifCond .lt 14, 3) := by decide +kernel
theorem dX6_needNode_4 : decode cX6_needNode 4 = .ok (.iload_n 1, 1) := by decide +kernel
theorem dX6_needNode_5 : decode cX6_needNode 5 = .ok (.aload_n 0, 1) := by decide +kernel
theorem dX6_needNode_6 : decode cX6_needNode 6 = .ok (.getfield 10, 3) := by decide +kernel
theorem dX6_needNode_9 : decode cX6_needNode 9 = .ok (.getfield 222, 3) := by decide +kernel
theorem dX6_needNode_12 : decode cX6_needNode 12 = .ok (.if_icmp .lt 13, 3) := by decide +kernel
theorem dX6_needNode_15 : decode cX6_needNode 15 = .ok (.new 36, 3) := by decide +kernel
theorem dX6_needNode_18 : decode cX6_needNode 18 = .ok (.dup, 1) := by decide +kernel
theorem dX6_needNode_19 : decode cX6_needNode 19 = .ok (.ldc 227, 2) := by decide +kernel
theorem dX6_needNode_21 : decode cX6_needNode 21 = .ok (.invokespecial 40, 3) := by decide +kernel
theorem dX6_needNode_24 : decode cX6_needNode 24 = .ok (.athrow, 1) := by decide +kernel
theorem dX6_needNode_25 : decode cX6_needNode 25 = .ok (.return_, 1) := by decide +kernel
set_option maxRecDepth 20000 in
theorem ggX6_knownPiece_Jx4a65c_size_8abf5 : GoodIn wsX6_knownPiece wsJx4a65c_size_8abf5 := goodIn_r _ [10, 11, 39, 40, 41] (by decide +kernel) (by decide +kernel)
set_option maxRecDepth 20000 in
theorem gX6_knownPiece_Jx4a65c_size_8abf5 : GoodIn wsX6_knownPiece (wsV RX6 73 RJx4a65c yJx4a65c_size_8abf5 wsJx4a65c_size_8abf5) := goodIn_app (goodIn_of _ (by decide +kernel)) ggX6_knownPiece_Jx4a65c_size_8abf5
set_option maxRecDepth 20000 in
theorem ggX6_knownPiece_Jx4a65c_get_915e3 : GoodIn wsX6_knownPiece wsJx4a65c_get_915e3 := goodIn_r _ [15, 11, 16, 17, 18, 19, 20, 21, 22, 23, 24, 25, 26, 9, 27, 28, 39, 40, 41] (by decide +kernel) (by decide +kernel)
set_option maxRecDepth 20000 in
theorem gX6_knownPiece_Jx4a65c_get_915e3 : GoodIn wsX6_knownPiece (wsV RX6 202 RJx4a65c yJx4a65c_get_915e3 wsJx4a65c_get_915e3) := goodIn_app (goodIn_of _ (by decide +kernel)) ggX6_knownPiece_Jx4a65c_get_915e3
theorem dX6_knownPiece_0 : decode cX6_knownPiece 0 = .ok (.iload_n 1, 1) := by decide +kernel
theorem dX6_knownPiece_1 : decode cX6_knownPiece 1 = .ok (.ifCond .lt 17, 3) := by decide +kernel
theorem dX6_knownPiece_4 : decode cX6_knownPiece 4 = .ok (.iload_n 1, 1) := by decide +kernel
theorem dX6_knownPiece_5 : decode cX6_knownPiece 5 = .ok (.aload_n 0, 1) := by decide +kernel
theorem dX6_knownPiece_6 : decode cX6_knownPiece 6 = .ok (.getfield 10, 3) := by decide +kernel
theorem dX6_knownPiece_9 : decode cX6_knownPiece 9 = .ok (.getfield 69, 3) := by decide +kernel
theorem dX6_knownPiece_12 : decode cX6_knownPiece 12 = .ok (.invokevirtual 73, 3) := by decide +kernel
theorem dX6_knownPiece_15 : decode cX6_knownPiece 15 = .ok (.if_icmp .lt 13, 3) := by decide +kernel
theorem dX6_knownPiece_18 : decode cX6_knownPiece 18 = .ok (.new 36, 3) := by decide +kernel
theorem dX6_knownPiece_21 : decode cX6_knownPiece 21 = .ok (.dup, 1) := by decide +kernel
theorem dX6_knownPiece_22 : decode cX6_knownPiece 22 = .ok (.ldc 234, 2) := by decide +kernel
theorem dX6_knownPiece_24 : decode cX6_knownPiece 24 = .ok (.invokespecial 40, 3) := by decide +kernel
theorem dX6_knownPiece_27 : decode cX6_knownPiece 27 = .ok (.athrow, 1) := by decide +kernel
theorem dX6_knownPiece_28 : decode cX6_knownPiece 28 = .ok (.aload_n 0, 1) := by decide +kernel
theorem dX6_knownPiece_29 : decode cX6_knownPiece 29 = .ok (.getfield 10, 3) := by decide +kernel
theorem dX6_knownPiece_32 : decode cX6_knownPiece 32 = .ok (.getfield 69, 3) := by decide +kernel
theorem dX6_knownPiece_35 : decode cX6_knownPiece 35 = .ok (.iload_n 1, 1) := by decide +kernel
theorem dX6_knownPiece_36 : decode cX6_knownPiece 36 = .ok (.invokevirtual 202, 3) := by decide +kernel
theorem dX6_knownPiece_39 : decode cX6_knownPiece 39 = .ok (.checkcast 84, 3) := by decide +kernel
theorem dX6_knownPiece_42 : decode cX6_knownPiece 42 = .ok (.areturn, 1) := by decide +kernel
set_option maxRecDepth 20000 in
theorem ggX6_knownUnit_Jx4a65c_size_8abf5 : GoodIn wsX6_knownUnit wsJx4a65c_size_8abf5 := goodIn_r _ [10, 11, 39, 40, 41] (by decide +kernel) (by decide +kernel)
set_option maxRecDepth 20000 in
theorem gX6_knownUnit_Jx4a65c_size_8abf5 : GoodIn wsX6_knownUnit (wsV RX6 73 RJx4a65c yJx4a65c_size_8abf5 wsJx4a65c_size_8abf5) := goodIn_app (goodIn_of _ (by decide +kernel)) ggX6_knownUnit_Jx4a65c_size_8abf5
set_option maxRecDepth 20000 in
theorem ggX6_knownUnit_Jx4a65c_get_915e3 : GoodIn wsX6_knownUnit wsJx4a65c_get_915e3 := goodIn_r _ [15, 11, 16, 17, 18, 19, 20, 21, 22, 23, 24, 25, 26, 9, 27, 28, 39, 40, 41] (by decide +kernel) (by decide +kernel)
set_option maxRecDepth 20000 in
theorem gX6_knownUnit_Jx4a65c_get_915e3 : GoodIn wsX6_knownUnit (wsV RX6 202 RJx4a65c yJx4a65c_get_915e3 wsJx4a65c_get_915e3) := goodIn_app (goodIn_of _ (by decide +kernel)) ggX6_knownUnit_Jx4a65c_get_915e3
theorem dX6_knownUnit_0 : decode cX6_knownUnit 0 = .ok (.iload_n 1, 1) := by decide +kernel
theorem dX6_knownUnit_1 : decode cX6_knownUnit 1 = .ok (.ifCond .lt 17, 3) := by decide +kernel
theorem dX6_knownUnit_4 : decode cX6_knownUnit 4 = .ok (.iload_n 1, 1) := by decide +kernel
theorem dX6_knownUnit_5 : decode cX6_knownUnit 5 = .ok (.aload_n 0, 1) := by decide +kernel
theorem dX6_knownUnit_6 : decode cX6_knownUnit 6 = .ok (.getfield 10, 3) := by decide +kernel
theorem dX6_knownUnit_9 : decode cX6_knownUnit 9 = .ok (.getfield 126, 3) := by decide +kernel
theorem dX6_knownUnit_12 : decode cX6_knownUnit 12 = .ok (.invokevirtual 73, 3) := by decide +kernel
theorem dX6_knownUnit_15 : decode cX6_knownUnit 15 = .ok (.if_icmp .lt 13, 3) := by decide +kernel
theorem dX6_knownUnit_18 : decode cX6_knownUnit 18 = .ok (.new 36, 3) := by decide +kernel
theorem dX6_knownUnit_21 : decode cX6_knownUnit 21 = .ok (.dup, 1) := by decide +kernel
theorem dX6_knownUnit_22 : decode cX6_knownUnit 22 = .ok (.ldc 236, 2) := by decide +kernel
theorem dX6_knownUnit_24 : decode cX6_knownUnit 24 = .ok (.invokespecial 40, 3) := by decide +kernel
theorem dX6_knownUnit_27 : decode cX6_knownUnit 27 = .ok (.athrow, 1) := by decide +kernel
theorem dX6_knownUnit_28 : decode cX6_knownUnit 28 = .ok (.aload_n 0, 1) := by decide +kernel
theorem dX6_knownUnit_29 : decode cX6_knownUnit 29 = .ok (.getfield 10, 3) := by decide +kernel
theorem dX6_knownUnit_32 : decode cX6_knownUnit 32 = .ok (.getfield 126, 3) := by decide +kernel
theorem dX6_knownUnit_35 : decode cX6_knownUnit 35 = .ok (.iload_n 1, 1) := by decide +kernel
theorem dX6_knownUnit_36 : decode cX6_knownUnit 36 = .ok (.invokevirtual 202, 3) := by decide +kernel
theorem dX6_knownUnit_39 : decode cX6_knownUnit 39 = .ok (.checkcast 131, 3) := by decide +kernel
theorem dX6_knownUnit_42 : decode cX6_knownUnit 42 = .ok (.areturn, 1) := by decide +kernel
set_option maxRecDepth 20000 in
theorem ggX6_needTime_X6_needWithin : GoodIn wsX6_needTime wsX6_needWithin := goodIn_ca (goodIn_r _ [5, 6, 7] (by decide +kernel) (by decide +kernel)) (goodIn_sub (fun _ h => List.mem_cons_of_mem _ (List.mem_append_right _ h)) (by decide +kernel))
set_option maxRecDepth 20000 in
theorem gX6_needTime_X6_needWithin : GoodIn wsX6_needTime (va_wsS RX6 65 yX6_needWithin wsX6_needWithin) := goodIn_app (goodIn_of _ (by decide +kernel)) ggX6_needTime_X6_needWithin
theorem dX6_needTime_0 : decode cX6_needTime 0 = .ok (.iload_n 0, 1) := by decide +kernel
theorem dX6_needTime_1 : decode cX6_needTime 1 = .ok (.iconst 0, 1) := by decide +kernel
theorem dX6_needTime_2 : decode cX6_needTime 2 = .ok (.ldc 240, 2) := by decide +kernel
theorem dX6_needTime_4 : decode cX6_needTime 4 = .ok (.invokestatic 65, 3) := by decide +kernel
theorem dX6_needTime_7 : decode cX6_needTime 7 = .ok (.return_, 1) := by decide +kernel
theorem dX6_needWithin_0 : decode cX6_needWithin 0 = .ok (.iload_n 0, 1) := by decide +kernel
theorem dX6_needWithin_1 : decode cX6_needWithin 1 = .ok (.iload_n 1, 1) := by decide +kernel
theorem dX6_needWithin_2 : decode cX6_needWithin 2 = .ok (.if_icmp .lt 8, 3) := by decide +kernel
theorem dX6_needWithin_5 : decode cX6_needWithin 5 = .ok (.iload_n 0, 1) := by decide +kernel
theorem dX6_needWithin_6 : decode cX6_needWithin 6 = .ok (.iload_n 2, 1) := by decide +kernel
theorem dX6_needWithin_7 : decode cX6_needWithin 7 = .ok (.if_icmp .le 13, 3) := by decide +kernel
theorem dX6_needWithin_10 : decode cX6_needWithin 10 = .ok (.new 174, 3) := by decide +kernel
theorem dX6_needWithin_13 : decode cX6_needWithin 13 = .ok (.dup, 1) := by decide +kernel
theorem dX6_needWithin_14 : decode cX6_needWithin 14 = .ok (.ldc 241, 2) := by decide +kernel
theorem dX6_needWithin_16 : decode cX6_needWithin 16 = .ok (.invokespecial 178, 3) := by decide +kernel
theorem dX6_needWithin_19 : decode cX6_needWithin 19 = .ok (.athrow, 1) := by decide +kernel
theorem dX6_needWithin_20 : decode cX6_needWithin 20 = .ok (.return_, 1) := by decide +kernel
theorem dX6_sum_0 : decode cX6_sum 0 = .ok (.lload_n 0, 1) := by decide +kernel
theorem dX6_sum_1 : decode cX6_sum 1 = .ok (.ldc2_w 187, 3) := by decide +kernel
theorem dX6_sum_4 : decode cX6_sum 4 = .ok (.lcmp, 1) := by decide +kernel
theorem dX6_sum_5 : decode cX6_sum 5 = .ok (.ifCond .eq 11, 3) := by decide +kernel
theorem dX6_sum_8 : decode cX6_sum 8 = .ok (.lload_n 2, 1) := by decide +kernel
theorem dX6_sum_9 : decode cX6_sum 9 = .ok (.ldc2_w 187, 3) := by decide +kernel
theorem dX6_sum_12 : decode cX6_sum 12 = .ok (.lcmp, 1) := by decide +kernel
theorem dX6_sum_13 : decode cX6_sum 13 = .ok (.ifCond .ne 9, 3) := by decide +kernel
theorem dX6_sum_16 : decode cX6_sum 16 = .ok (.ldc2_w 187, 3) := by decide +kernel
theorem dX6_sum_19 : decode cX6_sum 19 = .ok (.goto 6, 3) := by decide +kernel
theorem dX6_sum_22 : decode cX6_sum 22 = .ok (.lload_n 0, 1) := by decide +kernel
theorem dX6_sum_23 : decode cX6_sum 23 = .ok (.lload_n 2, 1) := by decide +kernel
theorem dX6_sum_24 : decode cX6_sum 24 = .ok (.ladd, 1) := by decide +kernel
theorem dX6_sum_25 : decode cX6_sum 25 = .ok (.lreturn, 1) := by decide +kernel
theorem dX6_lesser_0 : decode cX6_lesser 0 = .ok (.lload_n 0, 1) := by decide +kernel
theorem dX6_lesser_1 : decode cX6_lesser 1 = .ok (.ldc2_w 187, 3) := by decide +kernel
theorem dX6_lesser_4 : decode cX6_lesser 4 = .ok (.lcmp, 1) := by decide +kernel
theorem dX6_lesser_5 : decode cX6_lesser 5 = .ok (.ifCond .ne 5, 3) := by decide +kernel
theorem dX6_lesser_8 : decode cX6_lesser 8 = .ok (.lload_n 2, 1) := by decide +kernel
theorem dX6_lesser_9 : decode cX6_lesser 9 = .ok (.lreturn, 1) := by decide +kernel
theorem dX6_lesser_10 : decode cX6_lesser 10 = .ok (.lload_n 2, 1) := by decide +kernel
theorem dX6_lesser_11 : decode cX6_lesser 11 = .ok (.ldc2_w 187, 3) := by decide +kernel
theorem dX6_lesser_14 : decode cX6_lesser 14 = .ok (.lcmp, 1) := by decide +kernel
theorem dX6_lesser_15 : decode cX6_lesser 15 = .ok (.ifCond .ne 7, 3) := by decide +kernel
theorem dX6_lesser_18 : decode cX6_lesser 18 = .ok (.lload_n 0, 1) := by decide +kernel
theorem dX6_lesser_19 : decode cX6_lesser 19 = .ok (.goto 8, 3) := by decide +kernel
theorem dX6_lesser_22 : decode cX6_lesser 22 = .ok (.lload_n 0, 1) := by decide +kernel
theorem dX6_lesser_23 : decode cX6_lesser 23 = .ok (.lload_n 2, 1) := by decide +kernel
theorem dX6_lesser_24 : decode cX6_lesser 24 = .ok (.invokestatic 243, 3) := by decide +kernel
theorem dX6_lesser_27 : decode cX6_lesser 27 = .ok (.lreturn, 1) := by decide +kernel
set_option maxRecDepth 20000 in
theorem ggX6_redoTrees_X4_redo : GoodIn wsX6_redoTrees wsX4_redo := goodIn_r _ [7, 8, 9, 10, 11, 12, 13, 14, 15, 16, 17, 18, 19, 20, 21, 22, 23, 24, 25, 26, 27, 28, 29, 30, 31, 32, 33, 34, 35, 36, 37, 38, 39, 40, 41, 42, 43, 44, 45, 46, 47, 48, 49, 50, 51, 52, 53, 54, 55, 56, 57, 58, 59, 60, 61, 62, 63, 64, 65, 66, 67, 68, 69, 70, 71, 72, 73, 74, 75, 76, 77, 78, 79, 80, 81, 82, 83, 84, 85, 86, 87, 88, 89, 90, 91, 92, 93, 94, 95, 96, 97, 98, 99, 100, 101, 102, 103, 104, 105, 106, 107, 108, 109, 110, 111, 112, 113, 114, 115, 116, 117, 118, 119, 120, 121, 122, 123, 124, 125, 126, 127, 128, 129, 135, 136, 137, 138, 139, 140, 141, 142, 143, 144, 145, 146, 147, 148, 149, 150, 151, 152, 153, 154, 155, 156, 157, 158, 159, 160, 161, 162, 163, 164, 165, 166, 167, 168, 169, 170, 171, 172, 173] (by decide +kernel) (by decide +kernel)
set_option maxRecDepth 20000 in
theorem gX6_redoTrees_X4_redo : GoodIn wsX6_redoTrees (wsV RX6 212 RX4 yX4_redo wsX4_redo) := goodIn_app (goodIn_of _ (by decide +kernel)) ggX6_redoTrees_X4_redo
theorem dX6_redoTrees_0 : decode cX6_redoTrees 0 = .ok (.iconst 0, 1) := by decide +kernel
theorem dX6_redoTrees_1 : decode cX6_redoTrees 1 = .ok (.istore_n 1, 1) := by decide +kernel
theorem dX6_redoTrees_2 : decode cX6_redoTrees 2 = .ok (.iconst 0, 1) := by decide +kernel
theorem dX6_redoTrees_3 : decode cX6_redoTrees 3 = .ok (.istore_n 2, 1) := by decide +kernel
theorem dX6_redoTrees_4 : decode cX6_redoTrees 4 = .ok (.iload_n 2, 1) := by decide +kernel
theorem dX6_redoTrees_5 : decode cX6_redoTrees 5 = .ok (.bipush 6, 2) := by decide +kernel
theorem dX6_redoTrees_7 : decode cX6_redoTrees 7 = .ok (.if_icmp .ge 28, 3) := by decide +kernel
theorem dX6_redoTrees_10 : decode cX6_redoTrees 10 = .ok (.aload_n 0, 1) := by decide +kernel
theorem dX6_redoTrees_11 : decode cX6_redoTrees 11 = .ok (.getfield 27, 3) := by decide +kernel
theorem dX6_redoTrees_14 : decode cX6_redoTrees 14 = .ok (.iload_n 2, 1) := by decide +kernel
theorem dX6_redoTrees_15 : decode cX6_redoTrees 15 = .ok (.aaload, 1) := by decide +kernel
theorem dX6_redoTrees_16 : decode cX6_redoTrees 16 = .ok (.aload_n 0, 1) := by decide +kernel
theorem dX6_redoTrees_17 : decode cX6_redoTrees 17 = .ok (.getfield 21, 3) := by decide +kernel
theorem dX6_redoTrees_20 : decode cX6_redoTrees 20 = .ok (.invokevirtual 212, 3) := by decide +kernel
theorem dX6_redoTrees_23 : decode cX6_redoTrees 23 = .ok (.ifCond .eq 6, 3) := by decide +kernel
theorem dX6_redoTrees_26 : decode cX6_redoTrees 26 = .ok (.iinc 1 1, 3) := by decide +kernel
theorem dX6_redoTrees_29 : decode cX6_redoTrees 29 = .ok (.iinc 2 1, 3) := by decide +kernel
theorem dX6_redoTrees_32 : decode cX6_redoTrees 32 = .ok (.goto (-28), 3) := by decide +kernel
theorem dX6_redoTrees_35 : decode cX6_redoTrees 35 = .ok (.iload_n 1, 1) := by decide +kernel
theorem dX6_redoTrees_36 : decode cX6_redoTrees 36 = .ok (.ireturn, 1) := by decide +kernel
set_option maxRecDepth 20000 in
theorem ggX6_noteSteps_X3_lastPieceTo : GoodIn wsX6_noteSteps wsX3_lastPieceTo := goodIn_r _ [11, 12, 13, 14, 15, 16, 17, 18, 19, 20, 21, 22, 23, 24, 10, 25, 26, 27, 28, 29, 30, 31, 32, 33, 34, 35, 36, 37, 38, 39, 40, 41, 42, 43, 44, 45, 46, 47, 48, 49, 50, 51, 52, 53, 54, 55, 56, 57, 58, 59, 60, 61, 62, 75, 76, 77, 78, 79, 80, 81, 70, 71, 72, 73, 74, 82, 83, 84, 85, 86, 87, 88, 89, 90, 91, 92, 93, 94, 95] (by decide +kernel) (by decide +kernel)
set_option maxRecDepth 20000 in
theorem gX6_noteSteps_X3_lastPieceTo : GoodIn wsX6_noteSteps (wsV RX6 248 RX3 yX3_lastPieceTo wsX3_lastPieceTo) := goodIn_app (goodIn_of _ (by decide +kernel)) ggX6_noteSteps_X3_lastPieceTo
set_option maxRecDepth 20000 in
theorem ggX6_noteSteps_Jx4a65c_get_915e3 : GoodIn wsX6_noteSteps wsJx4a65c_get_915e3 := goodIn_r _ [32, 21, 33, 34, 35, 36, 37, 38, 39, 40, 41, 42, 43, 19, 44, 45, 82, 83, 84] (by decide +kernel) (by decide +kernel)
set_option maxRecDepth 20000 in
theorem gX6_noteSteps_Jx4a65c_get_915e3 : GoodIn wsX6_noteSteps (wsV RX6 202 RJx4a65c yJx4a65c_get_915e3 wsJx4a65c_get_915e3) := goodIn_app (goodIn_of _ (by decide +kernel)) ggX6_noteSteps_Jx4a65c_get_915e3
set_option maxRecDepth 20000 in
theorem ggX6_noteSteps_X2_otherEnd : GoodIn wsX6_noteSteps wsX2_otherEnd := goodIn_r _ [50, 51, 52, 85, 86, 87, 88, 89, 90, 91, 92, 93, 94, 95] (by decide +kernel) (by decide +kernel)
set_option maxRecDepth 20000 in
theorem gX6_noteSteps_X2_otherEnd : GoodIn wsX6_noteSteps (wsV RX6 252 RX2 yX2_otherEnd wsX2_otherEnd) := goodIn_app (goodIn_of _ (by decide +kernel)) ggX6_noteSteps_X2_otherEnd
theorem dX6_noteSteps_0 : decode cX6_noteSteps 0 = .ok (.aload_n 0, 1) := by decide +kernel
theorem dX6_noteSteps_1 : decode cX6_noteSteps 1 = .ok (.iconst 0, 1) := by decide +kernel
theorem dX6_noteSteps_2 : decode cX6_noteSteps 2 = .ok (.putfield 55, 3) := by decide +kernel
theorem dX6_noteSteps_5 : decode cX6_noteSteps 5 = .ok (.iload_n 2, 1) := by decide +kernel
theorem dX6_noteSteps_6 : decode cX6_noteSteps 6 = .ok (.istore_n 3, 1) := by decide +kernel
theorem dX6_noteSteps_7 : decode cX6_noteSteps 7 = .ok (.aload_n 0, 1) := by decide +kernel
theorem dX6_noteSteps_8 : decode cX6_noteSteps 8 = .ok (.getfield 55, 3) := by decide +kernel
theorem dX6_noteSteps_11 : decode cX6_noteSteps 11 = .ok (.sipush 150, 3) := by decide +kernel
theorem dX6_noteSteps_14 : decode cX6_noteSteps 14 = .ok (.if_icmp .ge 69, 3) := by decide +kernel
theorem dX6_noteSteps_17 : decode cX6_noteSteps 17 = .ok (.iload_n 3, 1) := by decide +kernel
theorem dX6_noteSteps_18 : decode cX6_noteSteps 18 = .ok (.iload_n 1, 1) := by decide +kernel
theorem dX6_noteSteps_19 : decode cX6_noteSteps 19 = .ok (.if_icmp .eq 64, 3) := by decide +kernel
theorem dX6_noteSteps_22 : decode cX6_noteSteps 22 = .ok (.aload_n 0, 1) := by decide +kernel
theorem dX6_noteSteps_23 : decode cX6_noteSteps 23 = .ok (.getfield 21, 3) := by decide +kernel
theorem dX6_noteSteps_26 : decode cX6_noteSteps 26 = .ok (.iload_n 3, 1) := by decide +kernel
theorem dX6_noteSteps_27 : decode cX6_noteSteps 27 = .ok (.invokevirtual 248, 3) := by decide +kernel
theorem dX6_noteSteps_30 : decode cX6_noteSteps 30 = .ok (.istore 4, 2) := by decide +kernel
theorem dX6_noteSteps_32 : decode cX6_noteSteps 32 = .ok (.iload 4, 2) := by decide +kernel
theorem dX6_noteSteps_34 : decode cX6_noteSteps 34 = .ok (.iconst (-1), 1) := by decide +kernel
theorem dX6_noteSteps_35 : decode cX6_noteSteps 35 = .ok (.if_icmp .ne 4, 3) := by decide +kernel
theorem dX6_noteSteps_38 : decode cX6_noteSteps 38 = .ok (.return_, 1) := by decide +kernel
theorem dX6_noteSteps_39 : decode cX6_noteSteps 39 = .ok (.aload_n 0, 1) := by decide +kernel
theorem dX6_noteSteps_40 : decode cX6_noteSteps 40 = .ok (.getfield 31, 3) := by decide +kernel
theorem dX6_noteSteps_43 : decode cX6_noteSteps 43 = .ok (.aload_n 0, 1) := by decide +kernel
theorem dX6_noteSteps_44 : decode cX6_noteSteps 44 = .ok (.getfield 55, 3) := by decide +kernel
theorem dX6_noteSteps_47 : decode cX6_noteSteps 47 = .ok (.iload 4, 2) := by decide +kernel
theorem dX6_noteSteps_49 : decode cX6_noteSteps 49 = .ok (.iastore, 1) := by decide +kernel
theorem dX6_noteSteps_50 : decode cX6_noteSteps 50 = .ok (.aload_n 0, 1) := by decide +kernel
theorem dX6_noteSteps_51 : decode cX6_noteSteps 51 = .ok (.dup, 1) := by decide +kernel
theorem dX6_noteSteps_52 : decode cX6_noteSteps 52 = .ok (.getfield 55, 3) := by decide +kernel
theorem dX6_noteSteps_55 : decode cX6_noteSteps 55 = .ok (.iconst 1, 1) := by decide +kernel
theorem dX6_noteSteps_56 : decode cX6_noteSteps 56 = .ok (.iadd, 1) := by decide +kernel
theorem dX6_noteSteps_57 : decode cX6_noteSteps 57 = .ok (.putfield 55, 3) := by decide +kernel
theorem dX6_noteSteps_60 : decode cX6_noteSteps 60 = .ok (.aload_n 0, 1) := by decide +kernel
theorem dX6_noteSteps_61 : decode cX6_noteSteps 61 = .ok (.getfield 10, 3) := by decide +kernel
theorem dX6_noteSteps_64 : decode cX6_noteSteps 64 = .ok (.getfield 69, 3) := by decide +kernel
theorem dX6_noteSteps_67 : decode cX6_noteSteps 67 = .ok (.iload 4, 2) := by decide +kernel
theorem dX6_noteSteps_69 : decode cX6_noteSteps 69 = .ok (.invokevirtual 202, 3) := by decide +kernel
theorem dX6_noteSteps_72 : decode cX6_noteSteps 72 = .ok (.checkcast 84, 3) := by decide +kernel
theorem dX6_noteSteps_75 : decode cX6_noteSteps 75 = .ok (.iload_n 3, 1) := by decide +kernel
theorem dX6_noteSteps_76 : decode cX6_noteSteps 76 = .ok (.invokevirtual 252, 3) := by decide +kernel
theorem dX6_noteSteps_79 : decode cX6_noteSteps 79 = .ok (.istore_n 3, 1) := by decide +kernel
theorem dX6_noteSteps_80 : decode cX6_noteSteps 80 = .ok (.goto (-73), 3) := by decide +kernel
theorem dX6_noteSteps_83 : decode cX6_noteSteps 83 = .ok (.return_, 1) := by decide +kernel
theorem dX7_init_0 : decode cX7_init 0 = .ok (.aload_n 0, 1) := by decide +kernel
theorem dX7_init_1 : decode cX7_init 1 = .ok (.invokespecial 1, 3) := by decide +kernel
theorem dX7_init_4 : decode cX7_init 4 = .ok (.aload_n 0, 1) := by decide +kernel
theorem dX7_init_5 : decode cX7_init 5 = .ok (.sipush 150, 3) := by decide +kernel
theorem dX7_init_8 : decode cX7_init 8 = .ok (.newarray .int, 2) := by decide +kernel
theorem dX7_init_10 : decode cX7_init 10 = .ok (.putfield 7, 3) := by decide +kernel
theorem dX7_init_13 : decode cX7_init 13 = .ok (.aload_n 0, 1) := by decide +kernel
theorem dX7_init_14 : decode cX7_init 14 = .ok (.sipush 150, 3) := by decide +kernel
theorem dX7_init_17 : decode cX7_init 17 = .ok (.newarray .int, 2) := by decide +kernel
theorem dX7_init_19 : decode cX7_init 19 = .ok (.putfield 13, 3) := by decide +kernel
theorem dX7_init_22 : decode cX7_init 22 = .ok (.aload_n 0, 1) := by decide +kernel
theorem dX7_init_23 : decode cX7_init 23 = .ok (.sipush 150, 3) := by decide +kernel
theorem dX7_init_26 : decode cX7_init 26 = .ok (.newarray .int, 2) := by decide +kernel
theorem dX7_init_28 : decode cX7_init 28 = .ok (.putfield 16, 3) := by decide +kernel
theorem dX7_init_31 : decode cX7_init 31 = .ok (.aload_n 0, 1) := by decide +kernel
theorem dX7_init_32 : decode cX7_init 32 = .ok (.sipush 150, 3) := by decide +kernel
theorem dX7_init_35 : decode cX7_init 35 = .ok (.newarray .int, 2) := by decide +kernel
theorem dX7_init_37 : decode cX7_init 37 = .ok (.putfield 19, 3) := by decide +kernel
theorem dX7_init_40 : decode cX7_init 40 = .ok (.aload_n 0, 1) := by decide +kernel
theorem dX7_init_41 : decode cX7_init 41 = .ok (.sipush 150, 3) := by decide +kernel
theorem dX7_init_44 : decode cX7_init 44 = .ok (.newarray .int, 2) := by decide +kernel
theorem dX7_init_46 : decode cX7_init 46 = .ok (.putfield 22, 3) := by decide +kernel
theorem dX7_init_49 : decode cX7_init 49 = .ok (.aload_n 0, 1) := by decide +kernel
theorem dX7_init_50 : decode cX7_init 50 = .ok (.sipush 150, 3) := by decide +kernel
theorem dX7_init_53 : decode cX7_init 53 = .ok (.newarray .int, 2) := by decide +kernel
theorem dX7_init_55 : decode cX7_init 55 = .ok (.putfield 25, 3) := by decide +kernel
theorem dX7_init_58 : decode cX7_init 58 = .ok (.aload_n 0, 1) := by decide +kernel
theorem dX7_init_59 : decode cX7_init 59 = .ok (.sipush 150, 3) := by decide +kernel
theorem dX7_init_62 : decode cX7_init 62 = .ok (.newarray .boolean, 2) := by decide +kernel
theorem dX7_init_64 : decode cX7_init 64 = .ok (.putfield 28, 3) := by decide +kernel
theorem dX7_init_67 : decode cX7_init 67 = .ok (.aload_n 0, 1) := by decide +kernel
theorem dX7_init_68 : decode cX7_init 68 = .ok (.sipush 150, 3) := by decide +kernel
theorem dX7_init_71 : decode cX7_init 71 = .ok (.newarray .int, 2) := by decide +kernel
theorem dX7_init_73 : decode cX7_init 73 = .ok (.putfield 32, 3) := by decide +kernel
theorem dX7_init_76 : decode cX7_init 76 = .ok (.aload_n 0, 1) := by decide +kernel
theorem dX7_init_77 : decode cX7_init 77 = .ok (.sipush 450, 3) := by decide +kernel
theorem dX7_init_80 : decode cX7_init 80 = .ok (.newarray .int, 2) := by decide +kernel
theorem dX7_init_82 : decode cX7_init 82 = .ok (.putfield 35, 3) := by decide +kernel
theorem dX7_init_85 : decode cX7_init 85 = .ok (.aload_n 0, 1) := by decide +kernel
theorem dX7_init_86 : decode cX7_init 86 = .ok (.sipush 450, 3) := by decide +kernel
theorem dX7_init_89 : decode cX7_init 89 = .ok (.newarray .int, 2) := by decide +kernel
theorem dX7_init_91 : decode cX7_init 91 = .ok (.putfield 38, 3) := by decide +kernel
theorem dX7_init_94 : decode cX7_init 94 = .ok (.aload_n 0, 1) := by decide +kernel
theorem dX7_init_95 : decode cX7_init 95 = .ok (.sipush 450, 3) := by decide +kernel
theorem dX7_init_98 : decode cX7_init 98 = .ok (.newarray .int, 2) := by decide +kernel
theorem dX7_init_100 : decode cX7_init 100 = .ok (.putfield 41, 3) := by decide +kernel
theorem dX7_init_103 : decode cX7_init 103 = .ok (.aload_n 0, 1) := by decide +kernel
theorem dX7_init_104 : decode cX7_init 104 = .ok (.bipush 12, 2) := by decide +kernel
theorem dX7_init_106 : decode cX7_init 106 = .ok (.newarray .int, 2) := by decide +kernel
theorem dX7_init_108 : decode cX7_init 108 = .ok (.putfield 44, 3) := by decide +kernel
theorem dX7_init_111 : decode cX7_init 111 = .ok (.aload_n 0, 1) := by decide +kernel
theorem dX7_init_112 : decode cX7_init 112 = .ok (.bipush 12, 2) := by decide +kernel
theorem dX7_init_114 : decode cX7_init 114 = .ok (.newarray .int, 2) := by decide +kernel
theorem dX7_init_116 : decode cX7_init 116 = .ok (.putfield 47, 3) := by decide +kernel
theorem dX7_init_119 : decode cX7_init 119 = .ok (.aload_n 0, 1) := by decide +kernel
theorem dX7_init_120 : decode cX7_init 120 = .ok (.bipush 12, 2) := by decide +kernel
theorem dX7_init_122 : decode cX7_init 122 = .ok (.newarray .int, 2) := by decide +kernel
theorem dX7_init_124 : decode cX7_init 124 = .ok (.putfield 50, 3) := by decide +kernel
theorem dX7_init_127 : decode cX7_init 127 = .ok (.aload_n 0, 1) := by decide +kernel
theorem dX7_init_128 : decode cX7_init 128 = .ok (.bipush 12, 2) := by decide +kernel
theorem dX7_init_130 : decode cX7_init 130 = .ok (.newarray .int, 2) := by decide +kernel
theorem dX7_init_132 : decode cX7_init 132 = .ok (.putfield 53, 3) := by decide +kernel
theorem dX7_init_135 : decode cX7_init 135 = .ok (.aload_n 0, 1) := by decide +kernel
theorem dX7_init_136 : decode cX7_init 136 = .ok (.bipush 12, 2) := by decide +kernel
theorem dX7_init_138 : decode cX7_init 138 = .ok (.newarray .int, 2) := by decide +kernel
theorem dX7_init_140 : decode cX7_init 140 = .ok (.putfield 56, 3) := by decide +kernel
theorem dX7_init_143 : decode cX7_init 143 = .ok (.aload_n 0, 1) := by decide +kernel
theorem dX7_init_144 : decode cX7_init 144 = .ok (.bipush 6, 2) := by decide +kernel
theorem dX7_init_146 : decode cX7_init 146 = .ok (.newarray .boolean, 2) := by decide +kernel
theorem dX7_init_148 : decode cX7_init 148 = .ok (.putfield 59, 3) := by decide +kernel
theorem dX7_init_151 : decode cX7_init 151 = .ok (.aload_n 0, 1) := by decide +kernel
theorem dX7_init_152 : decode cX7_init 152 = .ok (.bipush 6, 2) := by decide +kernel
theorem dX7_init_154 : decode cX7_init 154 = .ok (.newarray .int, 2) := by decide +kernel
theorem dX7_init_156 : decode cX7_init 156 = .ok (.putfield 62, 3) := by decide +kernel
theorem dX7_init_159 : decode cX7_init 159 = .ok (.aload_n 0, 1) := by decide +kernel
theorem dX7_init_160 : decode cX7_init 160 = .ok (.bipush 6, 2) := by decide +kernel
theorem dX7_init_162 : decode cX7_init 162 = .ok (.newarray .int, 2) := by decide +kernel
theorem dX7_init_164 : decode cX7_init 164 = .ok (.putfield 65, 3) := by decide +kernel
theorem dX7_init_167 : decode cX7_init 167 = .ok (.aload_n 0, 1) := by decide +kernel
theorem dX7_init_168 : decode cX7_init 168 = .ok (.bipush 6, 2) := by decide +kernel
theorem dX7_init_170 : decode cX7_init 170 = .ok (.newarray .int, 2) := by decide +kernel
theorem dX7_init_172 : decode cX7_init 172 = .ok (.putfield 68, 3) := by decide +kernel
theorem dX7_init_175 : decode cX7_init 175 = .ok (.aload_n 0, 1) := by decide +kernel
theorem dX7_init_176 : decode cX7_init 176 = .ok (.sipush 1200, 3) := by decide +kernel
theorem dX7_init_179 : decode cX7_init 179 = .ok (.newarray .long, 2) := by decide +kernel
theorem dX7_init_181 : decode cX7_init 181 = .ok (.putfield 71, 3) := by decide +kernel
theorem dX7_init_184 : decode cX7_init 184 = .ok (.aload_n 0, 1) := by decide +kernel
theorem dX7_init_185 : decode cX7_init 185 = .ok (.sipush 200, 3) := by decide +kernel
theorem dX7_init_188 : decode cX7_init 188 = .ok (.newarray .long, 2) := by decide +kernel
theorem dX7_init_190 : decode cX7_init 190 = .ok (.putfield 75, 3) := by decide +kernel
theorem dX7_init_193 : decode cX7_init 193 = .ok (.aload_n 0, 1) := by decide +kernel
theorem dX7_init_194 : decode cX7_init 194 = .ok (.sipush 1200, 3) := by decide +kernel
theorem dX7_init_197 : decode cX7_init 197 = .ok (.newarray .long, 2) := by decide +kernel
theorem dX7_init_199 : decode cX7_init 199 = .ok (.putfield 78, 3) := by decide +kernel
theorem dX7_init_202 : decode cX7_init 202 = .ok (.aload_n 0, 1) := by decide +kernel
theorem dX7_init_203 : decode cX7_init 203 = .ok (.sipush 1200, 3) := by decide +kernel
theorem dX7_init_206 : decode cX7_init 206 = .ok (.newarray .long, 2) := by decide +kernel
theorem dX7_init_208 : decode cX7_init 208 = .ok (.putfield 81, 3) := by decide +kernel
theorem dX7_init_211 : decode cX7_init 211 = .ok (.aload_n 0, 1) := by decide +kernel
theorem dX7_init_212 : decode cX7_init 212 = .ok (.sipush 200, 3) := by decide +kernel
theorem dX7_init_215 : decode cX7_init 215 = .ok (.newarray .int, 2) := by decide +kernel
theorem dX7_init_217 : decode cX7_init 217 = .ok (.putfield 84, 3) := by decide +kernel
theorem dX7_init_220 : decode cX7_init 220 = .ok (.return_, 1) := by decide +kernel
theorem dX7_net_0 : decode cX7_net 0 = .ok (.aload_n 0, 1) := by decide +kernel
theorem dX7_net_1 : decode cX7_net 1 = .ok (.iload_n 1, 1) := by decide +kernel
theorem dX7_net_2 : decode cX7_net 2 = .ok (.ifCond .ge 7, 3) := by decide +kernel
theorem dX7_net_5 : decode cX7_net 5 = .ok (.iconst 2, 1) := by decide +kernel
theorem dX7_net_6 : decode cX7_net 6 = .ok (.goto 15, 3) := by decide +kernel
theorem dX7_net_9 : decode cX7_net 9 = .ok (.iload_n 1, 1) := by decide +kernel
theorem dX7_net_10 : decode cX7_net 10 = .ok (.sipush 200, 3) := by decide +kernel
theorem dX7_net_13 : decode cX7_net 13 = .ok (.if_icmp .le 7, 3) := by decide +kernel
theorem dX7_net_16 : decode cX7_net 16 = .ok (.iconst 1, 1) := by decide +kernel
theorem dX7_net_17 : decode cX7_net 17 = .ok (.goto 4, 3) := by decide +kernel
theorem dX7_net_20 : decode cX7_net 20 = .ok (.iconst 0, 1) := by decide +kernel
theorem dX7_net_21 : decode cX7_net 21 = .ok (.putfield 87, 3) := by decide +kernel
theorem dX7_net_24 : decode cX7_net 24 = .ok (.aload_n 0, 1) := by decide +kernel
theorem dX7_net_25 : decode cX7_net 25 = .ok (.getfield 87, 3) := by decide +kernel
theorem dX7_net_28 : decode cX7_net 28 = .ok (.ifCond .le 4, 3) := by decide +kernel
theorem dX7_net_31 : decode cX7_net 31 = .ok (.return_, 1) := by decide +kernel
theorem dX7_net_32 : decode cX7_net 32 = .ok (.aload_n 0, 1) := by decide +kernel
theorem dX7_net_33 : decode cX7_net 33 = .ok (.iload_n 1, 1) := by decide +kernel
theorem dX7_net_34 : decode cX7_net 34 = .ok (.putfield 91, 3) := by decide +kernel
theorem dX7_net_37 : decode cX7_net 37 = .ok (.aload_n 0, 1) := by decide +kernel
theorem dX7_net_38 : decode cX7_net 38 = .ok (.iconst 0, 1) := by decide +kernel
theorem dX7_net_39 : decode cX7_net 39 = .ok (.putfield 94, 3) := by decide +kernel
theorem dX7_net_42 : decode cX7_net 42 = .ok (.aload_n 0, 1) := by decide +kernel
theorem dX7_net_43 : decode cX7_net 43 = .ok (.iconst 0, 1) := by decide +kernel
theorem dX7_net_44 : decode cX7_net 44 = .ok (.putfield 97, 3) := by decide +kernel
theorem dX7_net_47 : decode cX7_net 47 = .ok (.aload_n 0, 1) := by decide +kernel
theorem dX7_net_48 : decode cX7_net 48 = .ok (.iconst 0, 1) := by decide +kernel
theorem dX7_net_49 : decode cX7_net 49 = .ok (.putfield 100, 3) := by decide +kernel
theorem dX7_net_52 : decode cX7_net 52 = .ok (.iconst 0, 1) := by decide +kernel
theorem dX7_net_53 : decode cX7_net 53 = .ok (.istore_n 2, 1) := by decide +kernel
theorem dX7_net_54 : decode cX7_net 54 = .ok (.iload_n 2, 1) := by decide +kernel
theorem dX7_net_55 : decode cX7_net 55 = .ok (.bipush 6, 2) := by decide +kernel
theorem dX7_net_57 : decode cX7_net 57 = .ok (.if_icmp .ge 16, 3) := by decide +kernel
theorem dX7_net_60 : decode cX7_net 60 = .ok (.aload_n 0, 1) := by decide +kernel
theorem dX7_net_61 : decode cX7_net 61 = .ok (.getfield 59, 3) := by decide +kernel
theorem dX7_net_64 : decode cX7_net 64 = .ok (.iload_n 2, 1) := by decide +kernel
theorem dX7_net_65 : decode cX7_net 65 = .ok (.iconst 0, 1) := by decide +kernel
theorem dX7_net_66 : decode cX7_net 66 = .ok (.bastore, 1) := by decide +kernel
theorem dX7_net_67 : decode cX7_net 67 = .ok (.iinc 2 1, 3) := by decide +kernel
theorem dX7_net_70 : decode cX7_net 70 = .ok (.goto (-16), 3) := by decide +kernel
theorem dX7_net_73 : decode cX7_net 73 = .ok (.return_, 1) := by decide +kernel
theorem dX7_thrown_0 : decode cX7_thrown 0 = .ok (.aload_n 0, 1) := by decide +kernel
theorem dX7_thrown_1 : decode cX7_thrown 1 = .ok (.getfield 87, 3) := by decide +kernel
theorem dX7_thrown_4 : decode cX7_thrown 4 = .ok (.ireturn, 1) := by decide +kernel
theorem dX7_in_0 : decode cX7_in 0 = .ok (.iload_n 0, 1) := by decide +kernel
theorem dX7_in_1 : decode cX7_in 1 = .ok (.iload_n 1, 1) := by decide +kernel
theorem dX7_in_2 : decode cX7_in 2 = .ok (.if_icmp .lt 12, 3) := by decide +kernel
theorem dX7_in_5 : decode cX7_in 5 = .ok (.iload_n 0, 1) := by decide +kernel
theorem dX7_in_6 : decode cX7_in 6 = .ok (.iload_n 2, 1) := by decide +kernel
theorem dX7_in_7 : decode cX7_in 7 = .ok (.if_icmp .gt 7, 3) := by decide +kernel
theorem dX7_in_10 : decode cX7_in 10 = .ok (.iconst 1, 1) := by decide +kernel
theorem dX7_in_11 : decode cX7_in 11 = .ok (.goto 4, 3) := by decide +kernel
theorem dX7_in_14 : decode cX7_in 14 = .ok (.iconst 0, 1) := by decide +kernel
theorem dX7_in_15 : decode cX7_in 15 = .ok (.ireturn, 1) := by decide +kernel
set_option maxRecDepth 20000 in
theorem ggX7_isNode_X7_in : GoodIn wsX7_isNode wsX7_in := goodIn_r _ [5] (by decide +kernel) (by decide +kernel)
set_option maxRecDepth 20000 in
theorem gX7_isNode_X7_in : GoodIn wsX7_isNode (va_wsS RX7 103 yX7_in wsX7_in) := goodIn_app (goodIn_of _ (by decide +kernel)) ggX7_isNode_X7_in
theorem dX7_isNode_0 : decode cX7_isNode 0 = .ok (.iload_n 1, 1) := by decide +kernel
theorem dX7_isNode_1 : decode cX7_isNode 1 = .ok (.iconst 0, 1) := by decide +kernel
theorem dX7_isNode_2 : decode cX7_isNode 2 = .ok (.aload_n 0, 1) := by decide +kernel
theorem dX7_isNode_3 : decode cX7_isNode 3 = .ok (.getfield 91, 3) := by decide +kernel
theorem dX7_isNode_6 : decode cX7_isNode 6 = .ok (.iconst 1, 1) := by decide +kernel
theorem dX7_isNode_7 : decode cX7_isNode 7 = .ok (.isub, 1) := by decide +kernel
theorem dX7_isNode_8 : decode cX7_isNode 8 = .ok (.invokestatic 103, 3) := by decide +kernel
theorem dX7_isNode_11 : decode cX7_isNode 11 = .ok (.ireturn, 1) := by decide +kernel
set_option maxRecDepth 20000 in
theorem ggX7_isPiece_X7_in : GoodIn wsX7_isPiece wsX7_in := goodIn_r _ [5] (by decide +kernel) (by decide +kernel)
set_option maxRecDepth 20000 in
theorem gX7_isPiece_X7_in : GoodIn wsX7_isPiece (va_wsS RX7 103 yX7_in wsX7_in) := goodIn_app (goodIn_of _ (by decide +kernel)) ggX7_isPiece_X7_in
theorem dX7_isPiece_0 : decode cX7_isPiece 0 = .ok (.iload_n 1, 1) := by decide +kernel
theorem dX7_isPiece_1 : decode cX7_isPiece 1 = .ok (.iconst 0, 1) := by decide +kernel
theorem dX7_isPiece_2 : decode cX7_isPiece 2 = .ok (.aload_n 0, 1) := by decide +kernel
theorem dX7_isPiece_3 : decode cX7_isPiece 3 = .ok (.getfield 94, 3) := by decide +kernel
theorem dX7_isPiece_6 : decode cX7_isPiece 6 = .ok (.iconst 1, 1) := by decide +kernel
theorem dX7_isPiece_7 : decode cX7_isPiece 7 = .ok (.isub, 1) := by decide +kernel
theorem dX7_isPiece_8 : decode cX7_isPiece 8 = .ok (.invokestatic 103, 3) := by decide +kernel
theorem dX7_isPiece_11 : decode cX7_isPiece 11 = .ok (.ireturn, 1) := by decide +kernel
set_option maxRecDepth 20000 in
theorem ggX7_isUnit_X7_in : GoodIn wsX7_isUnit wsX7_in := goodIn_r _ [5] (by decide +kernel) (by decide +kernel)
set_option maxRecDepth 20000 in
theorem gX7_isUnit_X7_in : GoodIn wsX7_isUnit (va_wsS RX7 103 yX7_in wsX7_in) := goodIn_app (goodIn_of _ (by decide +kernel)) ggX7_isUnit_X7_in
theorem dX7_isUnit_0 : decode cX7_isUnit 0 = .ok (.iload_n 1, 1) := by decide +kernel
theorem dX7_isUnit_1 : decode cX7_isUnit 1 = .ok (.iconst 0, 1) := by decide +kernel
theorem dX7_isUnit_2 : decode cX7_isUnit 2 = .ok (.aload_n 0, 1) := by decide +kernel
theorem dX7_isUnit_3 : decode cX7_isUnit 3 = .ok (.getfield 97, 3) := by decide +kernel
theorem dX7_isUnit_6 : decode cX7_isUnit 6 = .ok (.iconst 1, 1) := by decide +kernel
theorem dX7_isUnit_7 : decode cX7_isUnit 7 = .ok (.isub, 1) := by decide +kernel
theorem dX7_isUnit_8 : decode cX7_isUnit 8 = .ok (.invokestatic 103, 3) := by decide +kernel
theorem dX7_isUnit_11 : decode cX7_isUnit 11 = .ok (.ireturn, 1) := by decide +kernel
theorem dX7_goes_0 : decode cX7_goes 0 = .ok (.aload_n 0, 1) := by decide +kernel
theorem dX7_goes_1 : decode cX7_goes 1 = .ok (.iload_n 1, 1) := by decide +kernel
theorem dX7_goes_2 : decode cX7_goes 2 = .ok (.ifCond .ne 7, 3) := by decide +kernel
theorem dX7_goes_5 : decode cX7_goes 5 = .ok (.iconst 1, 1) := by decide +kernel
theorem dX7_goes_6 : decode cX7_goes 6 = .ok (.goto 20, 3) := by decide +kernel
theorem dX7_goes_9 : decode cX7_goes 9 = .ok (.iload_n 2, 1) := by decide +kernel
theorem dX7_goes_10 : decode cX7_goes 10 = .ok (.ifCond .ne 7, 3) := by decide +kernel
theorem dX7_goes_13 : decode cX7_goes 13 = .ok (.iconst 2, 1) := by decide +kernel
theorem dX7_goes_14 : decode cX7_goes 14 = .ok (.goto 12, 3) := by decide +kernel
theorem dX7_goes_17 : decode cX7_goes 17 = .ok (.iload_n 3, 1) := by decide +kernel
theorem dX7_goes_18 : decode cX7_goes 18 = .ok (.ifCond .ne 7, 3) := by decide +kernel
theorem dX7_goes_21 : decode cX7_goes 21 = .ok (.iconst 3, 1) := by decide +kernel
theorem dX7_goes_22 : decode cX7_goes 22 = .ok (.goto 4, 3) := by decide +kernel
theorem dX7_goes_25 : decode cX7_goes 25 = .ok (.iconst 0, 1) := by decide +kernel
theorem dX7_goes_26 : decode cX7_goes 26 = .ok (.putfield 87, 3) := by decide +kernel
theorem dX7_goes_29 : decode cX7_goes 29 = .ok (.aload_n 0, 1) := by decide +kernel
theorem dX7_goes_30 : decode cX7_goes 30 = .ok (.getfield 87, 3) := by decide +kernel
theorem dX7_goes_33 : decode cX7_goes 33 = .ok (.ifCond .ne 7, 3) := by decide +kernel
theorem dX7_goes_36 : decode cX7_goes 36 = .ok (.iconst 1, 1) := by decide +kernel
theorem dX7_goes_37 : decode cX7_goes 37 = .ok (.goto 4, 3) := by decide +kernel
theorem dX7_goes_40 : decode cX7_goes 40 = .ok (.iconst 0, 1) := by decide +kernel
theorem dX7_goes_41 : decode cX7_goes 41 = .ok (.ireturn, 1) := by decide +kernel
set_option maxRecDepth 20000 in
theorem ggX7_share_X7_in : GoodIn wsX7_share wsX7_in := goodIn_r _ [8] (by decide +kernel) (by decide +kernel)
set_option maxRecDepth 20000 in
theorem gX7_share_X7_in : GoodIn wsX7_share (va_wsS RX7 103 yX7_in wsX7_in) := goodIn_app (goodIn_of _ (by decide +kernel)) ggX7_share_X7_in
theorem dX7_share_0 : decode cX7_share 0 = .ok (.iload_n 2, 1) := by decide +kernel
theorem dX7_share_1 : decode cX7_share 1 = .ok (.sipush 3600, 3) := by decide +kernel
theorem dX7_share_4 : decode cX7_share 4 = .ok (.idiv, 1) := by decide +kernel
theorem dX7_share_5 : decode cX7_share 5 = .ok (.bipush 24, 2) := by decide +kernel
theorem dX7_share_7 : decode cX7_share 7 = .ok (.irem, 1) := by decide +kernel
theorem dX7_share_8 : decode cX7_share 8 = .ok (.istore_n 3, 1) := by decide +kernel
theorem dX7_share_9 : decode cX7_share 9 = .ok (.iconst 0, 1) := by decide +kernel
theorem dX7_share_10 : decode cX7_share 10 = .ok (.istore 4, 2) := by decide +kernel
theorem dX7_share_12 : decode cX7_share 12 = .ok (.iload 4, 2) := by decide +kernel
theorem dX7_share_14 : decode cX7_share 14 = .ok (.aload_n 0, 1) := by decide +kernel
theorem dX7_share_15 : decode cX7_share 15 = .ok (.getfield 32, 3) := by decide +kernel
theorem dX7_share_18 : decode cX7_share 18 = .ok (.iload_n 1, 1) := by decide +kernel
theorem dX7_share_19 : decode cX7_share 19 = .ok (.iaload, 1) := by decide +kernel
theorem dX7_share_20 : decode cX7_share 20 = .ok (.if_icmp .ge 50, 3) := by decide +kernel
theorem dX7_share_23 : decode cX7_share 23 = .ok (.iload_n 3, 1) := by decide +kernel
theorem dX7_share_24 : decode cX7_share 24 = .ok (.aload_n 0, 1) := by decide +kernel
theorem dX7_share_25 : decode cX7_share 25 = .ok (.getfield 35, 3) := by decide +kernel
theorem dX7_share_28 : decode cX7_share 28 = .ok (.iconst 3, 1) := by decide +kernel
theorem dX7_share_29 : decode cX7_share 29 = .ok (.iload_n 1, 1) := by decide +kernel
theorem dX7_share_30 : decode cX7_share 30 = .ok (.imul, 1) := by decide +kernel
theorem dX7_share_31 : decode cX7_share 31 = .ok (.iload 4, 2) := by decide +kernel
theorem dX7_share_33 : decode cX7_share 33 = .ok (.iadd, 1) := by decide +kernel
theorem dX7_share_34 : decode cX7_share 34 = .ok (.iaload, 1) := by decide +kernel
theorem dX7_share_35 : decode cX7_share 35 = .ok (.aload_n 0, 1) := by decide +kernel
theorem dX7_share_36 : decode cX7_share 36 = .ok (.getfield 38, 3) := by decide +kernel
theorem dX7_share_39 : decode cX7_share 39 = .ok (.iconst 3, 1) := by decide +kernel
theorem dX7_share_40 : decode cX7_share 40 = .ok (.iload_n 1, 1) := by decide +kernel
theorem dX7_share_41 : decode cX7_share 41 = .ok (.imul, 1) := by decide +kernel
theorem dX7_share_42 : decode cX7_share 42 = .ok (.iload 4, 2) := by decide +kernel
theorem dX7_share_44 : decode cX7_share 44 = .ok (.iadd, 1) := by decide +kernel
theorem dX7_share_45 : decode cX7_share 45 = .ok (.iaload, 1) := by decide +kernel
theorem dX7_share_46 : decode cX7_share 46 = .ok (.invokestatic 103, 3) := by decide +kernel
theorem dX7_share_49 : decode cX7_share 49 = .ok (.ifCond .eq 15, 3) := by decide +kernel
theorem dX7_share_52 : decode cX7_share 52 = .ok (.aload_n 0, 1) := by decide +kernel
theorem dX7_share_53 : decode cX7_share 53 = .ok (.getfield 41, 3) := by decide +kernel
theorem dX7_share_56 : decode cX7_share 56 = .ok (.iconst 3, 1) := by decide +kernel
theorem dX7_share_57 : decode cX7_share 57 = .ok (.iload_n 1, 1) := by decide +kernel
theorem dX7_share_58 : decode cX7_share 58 = .ok (.imul, 1) := by decide +kernel
theorem dX7_share_59 : decode cX7_share 59 = .ok (.iload 4, 2) := by decide +kernel
theorem dX7_share_61 : decode cX7_share 61 = .ok (.iadd, 1) := by decide +kernel
theorem dX7_share_62 : decode cX7_share 62 = .ok (.iaload, 1) := by decide +kernel
theorem dX7_share_63 : decode cX7_share 63 = .ok (.ireturn, 1) := by decide +kernel
theorem dX7_share_64 : decode cX7_share 64 = .ok (.iinc 4 1, 3) := by decide +kernel
theorem dX7_share_67 : decode cX7_share 67 = .ok (.goto (-55), 3) := by decide +kernel
theorem dX7_share_70 : decode cX7_share 70 = .ok (.bipush 100, 2) := by decide +kernel
theorem dX7_share_72 : decode cX7_share 72 = .ok (.ireturn, 1) := by decide +kernel
set_option maxRecDepth 20000 in
theorem ggX7_takes_X7_share : GoodIn wsX7_takes wsX7_share := goodIn_r _ [9, 10, 11, 12, 13, 14, 15, 8, 16, 17, 18, 19, 20, 21, 22, 23, 24, 25, 26, 27, 28, 29, 30, 31, 32, 33, 34, 35, 36, 37, 38, 39, 40, 41, 42, 43, 44, 45, 46] (by decide +kernel) (by decide +kernel)
set_option maxRecDepth 20000 in
theorem gX7_takes_X7_share : GoodIn wsX7_takes (wsV RX7 107 RX7 yX7_share wsX7_share) := goodIn_app (goodIn_of _ (by decide +kernel)) ggX7_takes_X7_share
theorem dX7_takes_0 : decode cX7_takes 0 = .ok (.aload_n 0, 1) := by decide +kernel
theorem dX7_takes_1 : decode cX7_takes 1 = .ok (.getfield 19, 3) := by decide +kernel
theorem dX7_takes_4 : decode cX7_takes 4 = .ok (.iload_n 2, 1) := by decide +kernel
theorem dX7_takes_5 : decode cX7_takes 5 = .ok (.iaload, 1) := by decide +kernel
theorem dX7_takes_6 : decode cX7_takes 6 = .ok (.i2l, 1) := by decide +kernel
theorem dX7_takes_7 : decode cX7_takes 7 = .ok (.aload_n 0, 1) := by decide +kernel
theorem dX7_takes_8 : decode cX7_takes 8 = .ok (.iload_n 2, 1) := by decide +kernel
theorem dX7_takes_9 : decode cX7_takes 9 = .ok (.iload 4, 2) := by decide +kernel
theorem dX7_takes_11 : decode cX7_takes 11 = .ok (.invokevirtual 107, 3) := by decide +kernel
theorem dX7_takes_14 : decode cX7_takes 14 = .ok (.i2l, 1) := by decide +kernel
theorem dX7_takes_15 : decode cX7_takes 15 = .ok (.lmul, 1) := by decide +kernel
theorem dX7_takes_16 : decode cX7_takes 16 = .ok (.aload_n 0, 1) := by decide +kernel
theorem dX7_takes_17 : decode cX7_takes 17 = .ok (.getfield 53, 3) := by decide +kernel
theorem dX7_takes_20 : decode cX7_takes 20 = .ok (.iload_n 1, 1) := by decide +kernel
theorem dX7_takes_21 : decode cX7_takes 21 = .ok (.iaload, 1) := by decide +kernel
theorem dX7_takes_22 : decode cX7_takes 22 = .ok (.i2l, 1) := by decide +kernel
theorem dX7_takes_23 : decode cX7_takes 23 = .ok (.lmul, 1) := by decide +kernel
theorem dX7_takes_24 : decode cX7_takes 24 = .ok (.lstore 5, 2) := by decide +kernel
theorem dX7_takes_26 : decode cX7_takes 26 = .ok (.ldc2_w 111, 3) := by decide +kernel
theorem dX7_takes_29 : decode cX7_takes 29 = .ok (.iload_n 3, 1) := by decide +kernel
theorem dX7_takes_30 : decode cX7_takes 30 = .ok (.i2l, 1) := by decide +kernel
theorem dX7_takes_31 : decode cX7_takes 31 = .ok (.lmul, 1) := by decide +kernel
theorem dX7_takes_32 : decode cX7_takes 32 = .ok (.aload_n 0, 1) := by decide +kernel
theorem dX7_takes_33 : decode cX7_takes 33 = .ok (.getfield 56, 3) := by decide +kernel
theorem dX7_takes_36 : decode cX7_takes 36 = .ok (.iload_n 1, 1) := by decide +kernel
theorem dX7_takes_37 : decode cX7_takes 37 = .ok (.iaload, 1) := by decide +kernel
theorem dX7_takes_38 : decode cX7_takes 38 = .ok (.i2l, 1) := by decide +kernel
theorem dX7_takes_39 : decode cX7_takes 39 = .ok (.lmul, 1) := by decide +kernel
theorem dX7_takes_40 : decode cX7_takes 40 = .ok (.lstore 7, 2) := by decide +kernel
theorem dX7_takes_42 : decode cX7_takes 42 = .ok (.lload 7, 2) := by decide +kernel
theorem dX7_takes_44 : decode cX7_takes 44 = .ok (.lload 5, 2) := by decide +kernel
theorem dX7_takes_46 : decode cX7_takes 46 = .ok (.ladd, 1) := by decide +kernel
theorem dX7_takes_47 : decode cX7_takes 47 = .ok (.lconst 1, 1) := by decide +kernel
theorem dX7_takes_48 : decode cX7_takes 48 = .ok (.lsub, 1) := by decide +kernel
theorem dX7_takes_49 : decode cX7_takes 49 = .ok (.lload 5, 2) := by decide +kernel
theorem dX7_takes_51 : decode cX7_takes 51 = .ok (.ldiv, 1) := by decide +kernel
theorem dX7_takes_52 : decode cX7_takes 52 = .ok (.lreturn, 1) := by decide +kernel
theorem dX7_mayGo_0 : decode cX7_mayGo 0 = .ok (.aload_n 0, 1) := by decide +kernel
theorem dX7_mayGo_1 : decode cX7_mayGo 1 = .ok (.getfield 28, 3) := by decide +kernel
theorem dX7_mayGo_4 : decode cX7_mayGo 4 = .ok (.iload_n 2, 1) := by decide +kernel
theorem dX7_mayGo_5 : decode cX7_mayGo 5 = .ok (.baload, 1) := by decide +kernel
theorem dX7_mayGo_6 : decode cX7_mayGo 6 = .ok (.ifCond .ne 64, 3) := by decide +kernel
theorem dX7_mayGo_9 : decode cX7_mayGo 9 = .ok (.aload_n 0, 1) := by decide +kernel
theorem dX7_mayGo_10 : decode cX7_mayGo 10 = .ok (.getfield 19, 3) := by decide +kernel
theorem dX7_mayGo_13 : decode cX7_mayGo 13 = .ok (.iload_n 2, 1) := by decide +kernel
theorem dX7_mayGo_14 : decode cX7_mayGo 14 = .ok (.iaload, 1) := by decide +kernel
theorem dX7_mayGo_15 : decode cX7_mayGo 15 = .ok (.ifCond .le 55, 3) := by decide +kernel
theorem dX7_mayGo_18 : decode cX7_mayGo 18 = .ok (.aload_n 0, 1) := by decide +kernel
theorem dX7_mayGo_19 : decode cX7_mayGo 19 = .ok (.getfield 22, 3) := by decide +kernel
theorem dX7_mayGo_22 : decode cX7_mayGo 22 = .ok (.iload_n 2, 1) := by decide +kernel
theorem dX7_mayGo_23 : decode cX7_mayGo 23 = .ok (.iaload, 1) := by decide +kernel
theorem dX7_mayGo_24 : decode cX7_mayGo 24 = .ok (.ifCond .eq 18, 3) := by decide +kernel
theorem dX7_mayGo_27 : decode cX7_mayGo 27 = .ok (.aload_n 0, 1) := by decide +kernel
theorem dX7_mayGo_28 : decode cX7_mayGo 28 = .ok (.getfield 22, 3) := by decide +kernel
theorem dX7_mayGo_31 : decode cX7_mayGo 31 = .ok (.iload_n 2, 1) := by decide +kernel
theorem dX7_mayGo_32 : decode cX7_mayGo 32 = .ok (.iaload, 1) := by decide +kernel
theorem dX7_mayGo_33 : decode cX7_mayGo 33 = .ok (.aload_n 0, 1) := by decide +kernel
theorem dX7_mayGo_34 : decode cX7_mayGo 34 = .ok (.getfield 47, 3) := by decide +kernel
theorem dX7_mayGo_37 : decode cX7_mayGo 37 = .ok (.iload_n 1, 1) := by decide +kernel
theorem dX7_mayGo_38 : decode cX7_mayGo 38 = .ok (.iaload, 1) := by decide +kernel
theorem dX7_mayGo_39 : decode cX7_mayGo 39 = .ok (.if_icmp .lt 31, 3) := by decide +kernel
theorem dX7_mayGo_42 : decode cX7_mayGo 42 = .ok (.aload_n 0, 1) := by decide +kernel
theorem dX7_mayGo_43 : decode cX7_mayGo 43 = .ok (.getfield 25, 3) := by decide +kernel
theorem dX7_mayGo_46 : decode cX7_mayGo 46 = .ok (.iload_n 2, 1) := by decide +kernel
theorem dX7_mayGo_47 : decode cX7_mayGo 47 = .ok (.iaload, 1) := by decide +kernel
theorem dX7_mayGo_48 : decode cX7_mayGo 48 = .ok (.ifCond .eq 18, 3) := by decide +kernel
theorem dX7_mayGo_51 : decode cX7_mayGo 51 = .ok (.aload_n 0, 1) := by decide +kernel
theorem dX7_mayGo_52 : decode cX7_mayGo 52 = .ok (.getfield 25, 3) := by decide +kernel
theorem dX7_mayGo_55 : decode cX7_mayGo 55 = .ok (.iload_n 2, 1) := by decide +kernel
theorem dX7_mayGo_56 : decode cX7_mayGo 56 = .ok (.iaload, 1) := by decide +kernel
theorem dX7_mayGo_57 : decode cX7_mayGo 57 = .ok (.aload_n 0, 1) := by decide +kernel
theorem dX7_mayGo_58 : decode cX7_mayGo 58 = .ok (.getfield 50, 3) := by decide +kernel
theorem dX7_mayGo_61 : decode cX7_mayGo 61 = .ok (.iload_n 1, 1) := by decide +kernel
theorem dX7_mayGo_62 : decode cX7_mayGo 62 = .ok (.iaload, 1) := by decide +kernel
theorem dX7_mayGo_63 : decode cX7_mayGo 63 = .ok (.if_icmp .lt 7, 3) := by decide +kernel
theorem dX7_mayGo_66 : decode cX7_mayGo 66 = .ok (.iconst 1, 1) := by decide +kernel
theorem dX7_mayGo_67 : decode cX7_mayGo 67 = .ok (.goto 4, 3) := by decide +kernel
theorem dX7_mayGo_70 : decode cX7_mayGo 70 = .ok (.iconst 0, 1) := by decide +kernel
theorem dX7_mayGo_71 : decode cX7_mayGo 71 = .ok (.ireturn, 1) := by decide +kernel
set_option maxRecDepth 20000 in
theorem ggX7_spread_X7_mayGo : GoodIn wsX7_spread wsX7_mayGo := goodIn_r _ [12, 13, 14, 15, 16, 17, 18, 37, 38, 39, 40, 41, 42, 43, 44, 45, 46, 47, 48, 49, 50, 51, 52, 53, 54, 55, 56, 57, 58, 59, 60, 61, 62, 63, 64, 65, 66] (by decide +kernel) (by decide +kernel)
set_option maxRecDepth 20000 in
theorem gX7_spread_X7_mayGo : GoodIn wsX7_spread (wsV RX7 115 RX7 yX7_mayGo wsX7_mayGo) := goodIn_app (goodIn_of _ (by decide +kernel)) ggX7_spread_X7_mayGo
set_option maxRecDepth 20000 in
theorem ggX7_spread_X7_takes : GoodIn wsX7_spread wsX7_takes := goodIn_r _ [22, 14, 23, 24, 25, 26, 27, 28, 11, 29, 30, 31, 32, 33, 34, 35, 36, 37, 38, 39, 40, 41, 42, 43, 44, 45, 46, 47, 48, 49, 50, 51, 52, 53, 54, 55, 56, 57, 58, 59, 60, 61, 62, 63, 64, 65, 66] (by decide +kernel) (by decide +kernel)
set_option maxRecDepth 20000 in
theorem gX7_spread_X7_takes : GoodIn wsX7_spread (wsV RX7 119 RX7 yX7_takes wsX7_takes) := goodIn_app (goodIn_of _ (by decide +kernel)) ggX7_spread_X7_takes
theorem dX7_spread_0 : decode cX7_spread 0 = .ok (.iconst 0, 1) := by decide +kernel
theorem dX7_spread_1 : decode cX7_spread 1 = .ok (.istore 4, 2) := by decide +kernel
theorem dX7_spread_3 : decode cX7_spread 3 = .ok (.iload 4, 2) := by decide +kernel
theorem dX7_spread_5 : decode cX7_spread 5 = .ok (.aload_n 0, 1) := by decide +kernel
theorem dX7_spread_6 : decode cX7_spread 6 = .ok (.getfield 91, 3) := by decide +kernel
theorem dX7_spread_9 : decode cX7_spread 9 = .ok (.if_icmp .ge 29, 3) := by decide +kernel
theorem dX7_spread_12 : decode cX7_spread 12 = .ok (.aload_n 0, 1) := by decide +kernel
theorem dX7_spread_13 : decode cX7_spread 13 = .ok (.getfield 75, 3) := by decide +kernel
theorem dX7_spread_16 : decode cX7_spread 16 = .ok (.iload 4, 2) := by decide +kernel
theorem dX7_spread_18 : decode cX7_spread 18 = .ok (.iload 4, 2) := by decide +kernel
theorem dX7_spread_20 : decode cX7_spread 20 = .ok (.iload_n 2, 1) := by decide +kernel
theorem dX7_spread_21 : decode cX7_spread 21 = .ok (.if_icmp .ne 7, 3) := by decide +kernel
theorem dX7_spread_24 : decode cX7_spread 24 = .ok (.lconst 0, 1) := by decide +kernel
theorem dX7_spread_25 : decode cX7_spread 25 = .ok (.goto 6, 3) := by decide +kernel
theorem dX7_spread_28 : decode cX7_spread 28 = .ok (.ldc2_w 113, 3) := by decide +kernel
theorem dX7_spread_31 : decode cX7_spread 31 = .ok (.lastore, 1) := by decide +kernel
theorem dX7_spread_32 : decode cX7_spread 32 = .ok (.iinc 4 1, 3) := by decide +kernel
theorem dX7_spread_35 : decode cX7_spread 35 = .ok (.goto (-32), 3) := by decide +kernel
theorem dX7_spread_38 : decode cX7_spread 38 = .ok (.iconst 1, 1) := by decide +kernel
theorem dX7_spread_39 : decode cX7_spread 39 = .ok (.istore 4, 2) := by decide +kernel
theorem dX7_spread_41 : decode cX7_spread 41 = .ok (.iload 4, 2) := by decide +kernel
theorem dX7_spread_43 : decode cX7_spread 43 = .ok (.ifCond .eq 157, 3) := by decide +kernel
theorem dX7_spread_46 : decode cX7_spread 46 = .ok (.iconst 0, 1) := by decide +kernel
theorem dX7_spread_47 : decode cX7_spread 47 = .ok (.istore 4, 2) := by decide +kernel
theorem dX7_spread_49 : decode cX7_spread 49 = .ok (.iconst 0, 1) := by decide +kernel
theorem dX7_spread_50 : decode cX7_spread 50 = .ok (.istore 5, 2) := by decide +kernel
theorem dX7_spread_52 : decode cX7_spread 52 = .ok (.iload 5, 2) := by decide +kernel
theorem dX7_spread_54 : decode cX7_spread 54 = .ok (.aload_n 0, 1) := by decide +kernel
theorem dX7_spread_55 : decode cX7_spread 55 = .ok (.getfield 94, 3) := by decide +kernel
theorem dX7_spread_58 : decode cX7_spread 58 = .ok (.if_icmp .ge 139, 3) := by decide +kernel
theorem dX7_spread_61 : decode cX7_spread 61 = .ok (.aload_n 0, 1) := by decide +kernel
theorem dX7_spread_62 : decode cX7_spread 62 = .ok (.iload_n 1, 1) := by decide +kernel
theorem dX7_spread_63 : decode cX7_spread 63 = .ok (.iload 5, 2) := by decide +kernel
theorem dX7_spread_65 : decode cX7_spread 65 = .ok (.invokevirtual 115, 3) := by decide +kernel
theorem dX7_spread_68 : decode cX7_spread 68 = .ok (.ifCond .ne 6, 3) := by decide +kernel
theorem dX7_spread_71 : decode cX7_spread 71 = .ok (.goto 120, 3) := by decide +kernel
theorem dX7_spread_74 : decode cX7_spread 74 = .ok (.aload_n 0, 1) := by decide +kernel
theorem dX7_spread_75 : decode cX7_spread 75 = .ok (.iload_n 1, 1) := by decide +kernel
theorem dX7_spread_76 : decode cX7_spread 76 = .ok (.iload 5, 2) := by decide +kernel
theorem dX7_spread_78 : decode cX7_spread 78 = .ok (.aload_n 0, 1) := by decide +kernel
theorem dX7_spread_79 : decode cX7_spread 79 = .ok (.getfield 16, 3) := by decide +kernel
theorem dX7_spread_82 : decode cX7_spread 82 = .ok (.iload 5, 2) := by decide +kernel
theorem dX7_spread_84 : decode cX7_spread 84 = .ok (.iaload, 1) := by decide +kernel
theorem dX7_spread_85 : decode cX7_spread 85 = .ok (.iload_n 3, 1) := by decide +kernel
theorem dX7_spread_86 : decode cX7_spread 86 = .ok (.invokevirtual 119, 3) := by decide +kernel
theorem dX7_spread_89 : decode cX7_spread 89 = .ok (.lstore 6, 2) := by decide +kernel
theorem dX7_spread_91 : decode cX7_spread 91 = .ok (.aload_n 0, 1) := by decide +kernel
theorem dX7_spread_92 : decode cX7_spread 92 = .ok (.getfield 7, 3) := by decide +kernel
theorem dX7_spread_95 : decode cX7_spread 95 = .ok (.iload 5, 2) := by decide +kernel
theorem dX7_spread_97 : decode cX7_spread 97 = .ok (.iaload, 1) := by decide +kernel
theorem dX7_spread_98 : decode cX7_spread 98 = .ok (.istore 8, 2) := by decide +kernel
theorem dX7_spread_100 : decode cX7_spread 100 = .ok (.aload_n 0, 1) := by decide +kernel
theorem dX7_spread_101 : decode cX7_spread 101 = .ok (.getfield 13, 3) := by decide +kernel
theorem dX7_spread_104 : decode cX7_spread 104 = .ok (.iload 5, 2) := by decide +kernel
theorem dX7_spread_106 : decode cX7_spread 106 = .ok (.iaload, 1) := by decide +kernel
theorem dX7_spread_107 : decode cX7_spread 107 = .ok (.istore 9, 2) := by decide +kernel
theorem dX7_spread_109 : decode cX7_spread 109 = .ok (.aload_n 0, 1) := by decide +kernel
theorem dX7_spread_110 : decode cX7_spread 110 = .ok (.getfield 75, 3) := by decide +kernel
theorem dX7_spread_113 : decode cX7_spread 113 = .ok (.iload 8, 2) := by decide +kernel
theorem dX7_spread_115 : decode cX7_spread 115 = .ok (.laload, 1) := by decide +kernel
theorem dX7_spread_116 : decode cX7_spread 116 = .ok (.lload 6, 2) := by decide +kernel
theorem dX7_spread_118 : decode cX7_spread 118 = .ok (.ladd, 1) := by decide +kernel
theorem dX7_spread_119 : decode cX7_spread 119 = .ok (.aload_n 0, 1) := by decide +kernel
theorem dX7_spread_120 : decode cX7_spread 120 = .ok (.getfield 75, 3) := by decide +kernel
theorem dX7_spread_123 : decode cX7_spread 123 = .ok (.iload 9, 2) := by decide +kernel
theorem dX7_spread_125 : decode cX7_spread 125 = .ok (.laload, 1) := by decide +kernel
theorem dX7_spread_126 : decode cX7_spread 126 = .ok (.lcmp, 1) := by decide +kernel
theorem dX7_spread_127 : decode cX7_spread 127 = .ok (.ifCond .ge 23, 3) := by decide +kernel
theorem dX7_spread_130 : decode cX7_spread 130 = .ok (.aload_n 0, 1) := by decide +kernel
theorem dX7_spread_131 : decode cX7_spread 131 = .ok (.getfield 75, 3) := by decide +kernel
theorem dX7_spread_134 : decode cX7_spread 134 = .ok (.iload 9, 2) := by decide +kernel
theorem dX7_spread_136 : decode cX7_spread 136 = .ok (.aload_n 0, 1) := by decide +kernel
theorem dX7_spread_137 : decode cX7_spread 137 = .ok (.getfield 75, 3) := by decide +kernel
theorem dX7_spread_140 : decode cX7_spread 140 = .ok (.iload 8, 2) := by decide +kernel
theorem dX7_spread_142 : decode cX7_spread 142 = .ok (.laload, 1) := by decide +kernel
theorem dX7_spread_143 : decode cX7_spread 143 = .ok (.lload 6, 2) := by decide +kernel
theorem dX7_spread_145 : decode cX7_spread 145 = .ok (.ladd, 1) := by decide +kernel
theorem dX7_spread_146 : decode cX7_spread 146 = .ok (.lastore, 1) := by decide +kernel
theorem dX7_spread_147 : decode cX7_spread 147 = .ok (.iconst 1, 1) := by decide +kernel
theorem dX7_spread_148 : decode cX7_spread 148 = .ok (.istore 4, 2) := by decide +kernel
theorem dX7_spread_150 : decode cX7_spread 150 = .ok (.aload_n 0, 1) := by decide +kernel
theorem dX7_spread_151 : decode cX7_spread 151 = .ok (.getfield 75, 3) := by decide +kernel
theorem dX7_spread_154 : decode cX7_spread 154 = .ok (.iload 9, 2) := by decide +kernel
theorem dX7_spread_156 : decode cX7_spread 156 = .ok (.laload, 1) := by decide +kernel
theorem dX7_spread_157 : decode cX7_spread 157 = .ok (.lload 6, 2) := by decide +kernel
theorem dX7_spread_159 : decode cX7_spread 159 = .ok (.ladd, 1) := by decide +kernel
theorem dX7_spread_160 : decode cX7_spread 160 = .ok (.aload_n 0, 1) := by decide +kernel
theorem dX7_spread_161 : decode cX7_spread 161 = .ok (.getfield 75, 3) := by decide +kernel
theorem dX7_spread_164 : decode cX7_spread 164 = .ok (.iload 8, 2) := by decide +kernel
theorem dX7_spread_166 : decode cX7_spread 166 = .ok (.laload, 1) := by decide +kernel
theorem dX7_spread_167 : decode cX7_spread 167 = .ok (.lcmp, 1) := by decide +kernel
theorem dX7_spread_168 : decode cX7_spread 168 = .ok (.ifCond .ge 23, 3) := by decide +kernel
theorem dX7_spread_171 : decode cX7_spread 171 = .ok (.aload_n 0, 1) := by decide +kernel
theorem dX7_spread_172 : decode cX7_spread 172 = .ok (.getfield 75, 3) := by decide +kernel
theorem dX7_spread_175 : decode cX7_spread 175 = .ok (.iload 8, 2) := by decide +kernel
theorem dX7_spread_177 : decode cX7_spread 177 = .ok (.aload_n 0, 1) := by decide +kernel
theorem dX7_spread_178 : decode cX7_spread 178 = .ok (.getfield 75, 3) := by decide +kernel
theorem dX7_spread_181 : decode cX7_spread 181 = .ok (.iload 9, 2) := by decide +kernel
theorem dX7_spread_183 : decode cX7_spread 183 = .ok (.laload, 1) := by decide +kernel
theorem dX7_spread_184 : decode cX7_spread 184 = .ok (.lload 6, 2) := by decide +kernel
theorem dX7_spread_186 : decode cX7_spread 186 = .ok (.ladd, 1) := by decide +kernel
theorem dX7_spread_187 : decode cX7_spread 187 = .ok (.lastore, 1) := by decide +kernel
theorem dX7_spread_188 : decode cX7_spread 188 = .ok (.iconst 1, 1) := by decide +kernel
theorem dX7_spread_189 : decode cX7_spread 189 = .ok (.istore 4, 2) := by decide +kernel
theorem dX7_spread_191 : decode cX7_spread 191 = .ok (.iinc 5 1, 3) := by decide +kernel
theorem dX7_spread_194 : decode cX7_spread 194 = .ok (.goto (-142), 3) := by decide +kernel
theorem dX7_spread_197 : decode cX7_spread 197 = .ok (.goto (-156), 3) := by decide +kernel
theorem dX7_spread_200 : decode cX7_spread 200 = .ok (.return_, 1) := by decide +kernel
set_option maxRecDepth 20000 in
theorem ggX7_redo_X7_spread : GoodIn wsX7_redo wsX7_spread := goodIn_r _ [12, 5, 7, 13, 14, 15, 16, 17, 18, 19, 20, 11, 21, 22, 23, 24, 25, 26, 27, 28, 29, 30, 31, 32, 33, 34, 35, 36, 37, 38, 39, 40, 41, 42, 43, 44, 45, 46, 47, 48, 49, 50, 51, 52, 53, 54, 55, 56, 57, 58, 59, 60, 61, 62, 63, 64, 65, 66, 67, 68, 69, 70, 71, 72, 73, 74, 75] (by decide +kernel) (by decide +kernel)
set_option maxRecDepth 20000 in
theorem gX7_redo_X7_spread : GoodIn wsX7_redo (wsV RX7 123 RX7 yX7_spread wsX7_spread) := goodIn_app (goodIn_of _ (by decide +kernel)) ggX7_redo_X7_spread
theorem dX7_redo_0 : decode cX7_redo 0 = .ok (.iconst 0, 1) := by decide +kernel
theorem dX7_redo_1 : decode cX7_redo 1 = .ok (.istore_n 1, 1) := by decide +kernel
theorem dX7_redo_2 : decode cX7_redo 2 = .ok (.iconst 0, 1) := by decide +kernel
theorem dX7_redo_3 : decode cX7_redo 3 = .ok (.istore_n 2, 1) := by decide +kernel
theorem dX7_redo_4 : decode cX7_redo 4 = .ok (.iload_n 2, 1) := by decide +kernel
theorem dX7_redo_5 : decode cX7_redo 5 = .ok (.bipush 6, 2) := by decide +kernel
theorem dX7_redo_7 : decode cX7_redo 7 = .ok (.if_icmp .ge 124, 3) := by decide +kernel
theorem dX7_redo_10 : decode cX7_redo 10 = .ok (.aload_n 0, 1) := by decide +kernel
theorem dX7_redo_11 : decode cX7_redo 11 = .ok (.getfield 59, 3) := by decide +kernel
theorem dX7_redo_14 : decode cX7_redo 14 = .ok (.iload_n 2, 1) := by decide +kernel
theorem dX7_redo_15 : decode cX7_redo 15 = .ok (.baload, 1) := by decide +kernel
theorem dX7_redo_16 : decode cX7_redo 16 = .ok (.ifCond .ne 6, 3) := by decide +kernel
theorem dX7_redo_19 : decode cX7_redo 19 = .ok (.goto 106, 3) := by decide +kernel
theorem dX7_redo_22 : decode cX7_redo 22 = .ok (.aload_n 0, 1) := by decide +kernel
theorem dX7_redo_23 : decode cX7_redo 23 = .ok (.aload_n 0, 1) := by decide +kernel
theorem dX7_redo_24 : decode cX7_redo 24 = .ok (.getfield 65, 3) := by decide +kernel
theorem dX7_redo_27 : decode cX7_redo 27 = .ok (.iload_n 2, 1) := by decide +kernel
theorem dX7_redo_28 : decode cX7_redo 28 = .ok (.iaload, 1) := by decide +kernel
theorem dX7_redo_29 : decode cX7_redo 29 = .ok (.aload_n 0, 1) := by decide +kernel
theorem dX7_redo_30 : decode cX7_redo 30 = .ok (.getfield 62, 3) := by decide +kernel
theorem dX7_redo_33 : decode cX7_redo 33 = .ok (.iload_n 2, 1) := by decide +kernel
theorem dX7_redo_34 : decode cX7_redo 34 = .ok (.iaload, 1) := by decide +kernel
theorem dX7_redo_35 : decode cX7_redo 35 = .ok (.aload_n 0, 1) := by decide +kernel
theorem dX7_redo_36 : decode cX7_redo 36 = .ok (.getfield 68, 3) := by decide +kernel
theorem dX7_redo_39 : decode cX7_redo 39 = .ok (.iload_n 2, 1) := by decide +kernel
theorem dX7_redo_40 : decode cX7_redo 40 = .ok (.iaload, 1) := by decide +kernel
theorem dX7_redo_41 : decode cX7_redo 41 = .ok (.invokevirtual 123, 3) := by decide +kernel
theorem dX7_redo_44 : decode cX7_redo 44 = .ok (.iconst 0, 1) := by decide +kernel
theorem dX7_redo_45 : decode cX7_redo 45 = .ok (.istore_n 3, 1) := by decide +kernel
theorem dX7_redo_46 : decode cX7_redo 46 = .ok (.iconst 0, 1) := by decide +kernel
theorem dX7_redo_47 : decode cX7_redo 47 = .ok (.istore 4, 2) := by decide +kernel
theorem dX7_redo_49 : decode cX7_redo 49 = .ok (.iload 4, 2) := by decide +kernel
theorem dX7_redo_51 : decode cX7_redo 51 = .ok (.aload_n 0, 1) := by decide +kernel
theorem dX7_redo_52 : decode cX7_redo 52 = .ok (.getfield 91, 3) := by decide +kernel
theorem dX7_redo_55 : decode cX7_redo 55 = .ok (.if_icmp .ge 63, 3) := by decide +kernel
theorem dX7_redo_58 : decode cX7_redo 58 = .ok (.iload_n 3, 1) := by decide +kernel
theorem dX7_redo_59 : decode cX7_redo 59 = .ok (.ifCond .ne 27, 3) := by decide +kernel
theorem dX7_redo_62 : decode cX7_redo 62 = .ok (.aload_n 0, 1) := by decide +kernel
theorem dX7_redo_63 : decode cX7_redo 63 = .ok (.getfield 71, 3) := by decide +kernel
theorem dX7_redo_66 : decode cX7_redo 66 = .ok (.iload_n 2, 1) := by decide +kernel
theorem dX7_redo_67 : decode cX7_redo 67 = .ok (.sipush 200, 3) := by decide +kernel
theorem dX7_redo_70 : decode cX7_redo 70 = .ok (.imul, 1) := by decide +kernel
theorem dX7_redo_71 : decode cX7_redo 71 = .ok (.iload 4, 2) := by decide +kernel
theorem dX7_redo_73 : decode cX7_redo 73 = .ok (.iadd, 1) := by decide +kernel
theorem dX7_redo_74 : decode cX7_redo 74 = .ok (.laload, 1) := by decide +kernel
theorem dX7_redo_75 : decode cX7_redo 75 = .ok (.aload_n 0, 1) := by decide +kernel
theorem dX7_redo_76 : decode cX7_redo 76 = .ok (.getfield 75, 3) := by decide +kernel
theorem dX7_redo_79 : decode cX7_redo 79 = .ok (.iload 4, 2) := by decide +kernel
theorem dX7_redo_81 : decode cX7_redo 81 = .ok (.laload, 1) := by decide +kernel
theorem dX7_redo_82 : decode cX7_redo 82 = .ok (.lcmp, 1) := by decide +kernel
theorem dX7_redo_83 : decode cX7_redo 83 = .ok (.ifCond .eq 7, 3) := by decide +kernel
theorem dX7_redo_86 : decode cX7_redo 86 = .ok (.iconst 1, 1) := by decide +kernel
theorem dX7_redo_87 : decode cX7_redo 87 = .ok (.goto 4, 3) := by decide +kernel
theorem dX7_redo_90 : decode cX7_redo 90 = .ok (.iconst 0, 1) := by decide +kernel
theorem dX7_redo_91 : decode cX7_redo 91 = .ok (.istore_n 3, 1) := by decide +kernel
theorem dX7_redo_92 : decode cX7_redo 92 = .ok (.aload_n 0, 1) := by decide +kernel
theorem dX7_redo_93 : decode cX7_redo 93 = .ok (.getfield 71, 3) := by decide +kernel
theorem dX7_redo_96 : decode cX7_redo 96 = .ok (.iload_n 2, 1) := by decide +kernel
theorem dX7_redo_97 : decode cX7_redo 97 = .ok (.sipush 200, 3) := by decide +kernel
theorem dX7_redo_100 : decode cX7_redo 100 = .ok (.imul, 1) := by decide +kernel
theorem dX7_redo_101 : decode cX7_redo 101 = .ok (.iload 4, 2) := by decide +kernel
theorem dX7_redo_103 : decode cX7_redo 103 = .ok (.iadd, 1) := by decide +kernel
theorem dX7_redo_104 : decode cX7_redo 104 = .ok (.aload_n 0, 1) := by decide +kernel
theorem dX7_redo_105 : decode cX7_redo 105 = .ok (.getfield 75, 3) := by decide +kernel
theorem dX7_redo_108 : decode cX7_redo 108 = .ok (.iload 4, 2) := by decide +kernel
theorem dX7_redo_110 : decode cX7_redo 110 = .ok (.laload, 1) := by decide +kernel
theorem dX7_redo_111 : decode cX7_redo 111 = .ok (.lastore, 1) := by decide +kernel
theorem dX7_redo_112 : decode cX7_redo 112 = .ok (.iinc 4 1, 3) := by decide +kernel
theorem dX7_redo_115 : decode cX7_redo 115 = .ok (.goto (-66), 3) := by decide +kernel
theorem dX7_redo_118 : decode cX7_redo 118 = .ok (.iload_n 3, 1) := by decide +kernel
theorem dX7_redo_119 : decode cX7_redo 119 = .ok (.ifCond .eq 6, 3) := by decide +kernel
theorem dX7_redo_122 : decode cX7_redo 122 = .ok (.iinc 1 1, 3) := by decide +kernel
theorem dX7_redo_125 : decode cX7_redo 125 = .ok (.iinc 2 1, 3) := by decide +kernel
theorem dX7_redo_128 : decode cX7_redo 128 = .ok (.goto (-124), 3) := by decide +kernel
theorem dX7_redo_131 : decode cX7_redo 131 = .ok (.iload_n 1, 1) := by decide +kernel
theorem dX7_redo_132 : decode cX7_redo 132 = .ok (.ireturn, 1) := by decide +kernel
set_option maxRecDepth 20000 in
theorem ggX7_piece_X7_isNode : GoodIn wsX7_piece wsX7_isNode := goodIn_r _ [15, 16, 17, 18, 14, 19, 60, 61, 62, 63, 64, 65, 66, 67, 68, 69, 70, 71, 72, 73, 74, 75, 76, 77, 78, 79, 80, 81, 82, 83, 84, 85, 86, 87, 88, 89] (by decide +kernel) (by decide +kernel)
set_option maxRecDepth 20000 in
theorem gX7_piece_X7_isNode : GoodIn wsX7_piece (wsV RX7 127 RX7 yX7_isNode wsX7_isNode) := goodIn_app (goodIn_of _ (by decide +kernel)) ggX7_piece_X7_isNode
set_option maxRecDepth 20000 in
theorem ggX7_piece_X7_in : GoodIn wsX7_piece wsX7_in := goodIn_r _ [19] (by decide +kernel) (by decide +kernel)
set_option maxRecDepth 20000 in
theorem gX7_piece_X7_in : GoodIn wsX7_piece (va_wsS RX7 103 yX7_in wsX7_in) := goodIn_app (goodIn_of _ (by decide +kernel)) ggX7_piece_X7_in
set_option maxRecDepth 20000 in
theorem ggX7_piece_X7_goes : GoodIn wsX7_piece wsX7_goes := goodIn_r _ [23, 24, 60, 61, 62, 63, 64, 65, 66, 67, 68, 69, 70, 71, 72, 73, 74, 75, 76, 77, 78, 79, 80, 81, 82, 83, 84, 85, 86, 87, 88, 89] (by decide +kernel) (by decide +kernel)
set_option maxRecDepth 20000 in
theorem gX7_piece_X7_goes : GoodIn wsX7_piece (wsV RX7 132 RX7 yX7_goes wsX7_goes) := goodIn_app (goodIn_of _ (by decide +kernel)) ggX7_piece_X7_goes
set_option maxRecDepth 20000 in
theorem ggX7_piece_X7_redo : GoodIn wsX7_piece wsX7_redo := goodIn_r _ [28, 29, 30, 31, 32, 16, 33, 34, 35, 36, 37, 14, 38, 39, 2, 5, 3, 4, 40, 41, 42, 43, 9, 6, 7, 44, 8, 45, 46, 47, 48, 49, 50, 51, 52, 53, 54, 55, 56, 10, 57, 58, 59, 17, 18, 19, 60, 61, 62, 63, 64, 65, 66, 67, 68, 69, 70, 71, 72, 73, 74, 75, 76, 77, 78, 79, 80, 81, 82, 83, 84, 85, 86, 87, 88, 89] (by decide +kernel) (by decide +kernel)
set_option maxRecDepth 20000 in
theorem gX7_piece_X7_redo : GoodIn wsX7_piece (wsV RX7 136 RX7 yX7_redo wsX7_redo) := goodIn_app (goodIn_of _ (by decide +kernel)) ggX7_piece_X7_redo
theorem dX7_piece_0 : decode cX7_piece 0 = .ok (.aload_n 0, 1) := by decide +kernel
theorem dX7_piece_1 : decode cX7_piece 1 = .ok (.aload_n 0, 1) := by decide +kernel
theorem dX7_piece_2 : decode cX7_piece 2 = .ok (.iload_n 1, 1) := by decide +kernel
theorem dX7_piece_3 : decode cX7_piece 3 = .ok (.invokevirtual 127, 3) := by decide +kernel
theorem dX7_piece_6 : decode cX7_piece 6 = .ok (.ifCond .eq 20, 3) := by decide +kernel
theorem dX7_piece_9 : decode cX7_piece 9 = .ok (.aload_n 0, 1) := by decide +kernel
theorem dX7_piece_10 : decode cX7_piece 10 = .ok (.iload_n 2, 1) := by decide +kernel
theorem dX7_piece_11 : decode cX7_piece 11 = .ok (.invokevirtual 127, 3) := by decide +kernel
theorem dX7_piece_14 : decode cX7_piece 14 = .ok (.ifCond .eq 12, 3) := by decide +kernel
theorem dX7_piece_17 : decode cX7_piece 17 = .ok (.iload_n 1, 1) := by decide +kernel
theorem dX7_piece_18 : decode cX7_piece 18 = .ok (.iload_n 2, 1) := by decide +kernel
theorem dX7_piece_19 : decode cX7_piece 19 = .ok (.if_icmp .eq 7, 3) := by decide +kernel
theorem dX7_piece_22 : decode cX7_piece 22 = .ok (.iconst 1, 1) := by decide +kernel
theorem dX7_piece_23 : decode cX7_piece 23 = .ok (.goto 4, 3) := by decide +kernel
theorem dX7_piece_26 : decode cX7_piece 26 = .ok (.iconst 0, 1) := by decide +kernel
theorem dX7_piece_27 : decode cX7_piece 27 = .ok (.iload_n 3, 1) := by decide +kernel
theorem dX7_piece_28 : decode cX7_piece 28 = .ok (.iconst 1, 1) := by decide +kernel
theorem dX7_piece_29 : decode cX7_piece 29 = .ok (.ldc 131, 2) := by decide +kernel
theorem dX7_piece_31 : decode cX7_piece 31 = .ok (.invokestatic 103, 3) := by decide +kernel
theorem dX7_piece_34 : decode cX7_piece 34 = .ok (.ifCond .eq 19, 3) := by decide +kernel
theorem dX7_piece_37 : decode cX7_piece 37 = .ok (.iload 4, 2) := by decide +kernel
theorem dX7_piece_39 : decode cX7_piece 39 = .ok (.iconst 0, 1) := by decide +kernel
theorem dX7_piece_40 : decode cX7_piece 40 = .ok (.sipush 200, 3) := by decide +kernel
theorem dX7_piece_43 : decode cX7_piece 43 = .ok (.invokestatic 103, 3) := by decide +kernel
theorem dX7_piece_46 : decode cX7_piece 46 = .ok (.ifCond .eq 7, 3) := by decide +kernel
theorem dX7_piece_49 : decode cX7_piece 49 = .ok (.iconst 1, 1) := by decide +kernel
theorem dX7_piece_50 : decode cX7_piece 50 = .ok (.goto 4, 3) := by decide +kernel
theorem dX7_piece_53 : decode cX7_piece 53 = .ok (.iconst 0, 1) := by decide +kernel
theorem dX7_piece_54 : decode cX7_piece 54 = .ok (.aload_n 0, 1) := by decide +kernel
theorem dX7_piece_55 : decode cX7_piece 55 = .ok (.getfield 94, 3) := by decide +kernel
theorem dX7_piece_58 : decode cX7_piece 58 = .ok (.sipush 150, 3) := by decide +kernel
