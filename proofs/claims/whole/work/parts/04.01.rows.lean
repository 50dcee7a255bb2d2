theorem dX3_offer_33 : decode cX3_offer 33 = .ok (.laload, 1) := by decide +kernel
theorem dX3_offer_34 : decode cX3_offer 34 = .ok (.lcmp, 1) := by decide +kernel
theorem dX3_offer_35 : decode cX3_offer 35 = .ok (.ifCond .lt 4, 3) := by decide +kernel
theorem dX3_offer_38 : decode cX3_offer 38 = .ok (.return_, 1) := by decide +kernel
theorem dX3_offer_39 : decode cX3_offer 39 = .ok (.aload_n 0, 1) := by decide +kernel
theorem dX3_offer_40 : decode cX3_offer 40 = .ok (.getfield 25, 3) := by decide +kernel
theorem dX3_offer_43 : decode cX3_offer 43 = .ok (.iload_n 1, 1) := by decide +kernel
theorem dX3_offer_44 : decode cX3_offer 44 = .ok (.aload_n 0, 1) := by decide +kernel
theorem dX3_offer_45 : decode cX3_offer 45 = .ok (.getfield 36, 3) := by decide +kernel
theorem dX3_offer_48 : decode cX3_offer 48 = .ok (.iconst 1, 1) := by decide +kernel
theorem dX3_offer_49 : decode cX3_offer 49 = .ok (.isub, 1) := by decide +kernel
theorem dX3_offer_50 : decode cX3_offer 50 = .ok (.iastore, 1) := by decide +kernel
theorem dX3_offer_51 : decode cX3_offer 51 = .ok (.aload_n 0, 1) := by decide +kernel
theorem dX3_offer_52 : decode cX3_offer 52 = .ok (.getfield 25, 3) := by decide +kernel
theorem dX3_offer_55 : decode cX3_offer 55 = .ok (.iload_n 1, 1) := by decide +kernel
theorem dX3_offer_56 : decode cX3_offer 56 = .ok (.iaload, 1) := by decide +kernel
theorem dX3_offer_57 : decode cX3_offer 57 = .ok (.istore 5, 2) := by decide +kernel
theorem dX3_offer_59 : decode cX3_offer 59 = .ok (.iload 5, 2) := by decide +kernel
theorem dX3_offer_61 : decode cX3_offer 61 = .ok (.aload_n 0, 1) := by decide +kernel
theorem dX3_offer_62 : decode cX3_offer 62 = .ok (.getfield 29, 3) := by decide +kernel
theorem dX3_offer_65 : decode cX3_offer 65 = .ok (.iload_n 1, 1) := by decide +kernel
theorem dX3_offer_66 : decode cX3_offer 66 = .ok (.iaload, 1) := by decide +kernel
theorem dX3_offer_67 : decode cX3_offer 67 = .ok (.if_icmp .le 48, 3) := by decide +kernel
theorem dX3_offer_70 : decode cX3_offer 70 = .ok (.aload_n 0, 1) := by decide +kernel
theorem dX3_offer_71 : decode cX3_offer 71 = .ok (.getfield 22, 3) := by decide +kernel
theorem dX3_offer_74 : decode cX3_offer 74 = .ok (.iload 4, 2) := by decide +kernel
theorem dX3_offer_76 : decode cX3_offer 76 = .ok (.iload 5, 2) := by decide +kernel
theorem dX3_offer_78 : decode cX3_offer 78 = .ok (.iadd, 1) := by decide +kernel
theorem dX3_offer_79 : decode cX3_offer 79 = .ok (.iconst 1, 1) := by decide +kernel
theorem dX3_offer_80 : decode cX3_offer 80 = .ok (.isub, 1) := by decide +kernel
theorem dX3_offer_81 : decode cX3_offer 81 = .ok (.laload, 1) := by decide +kernel
theorem dX3_offer_82 : decode cX3_offer 82 = .ok (.lload_n 2, 1) := by decide +kernel
theorem dX3_offer_83 : decode cX3_offer 83 = .ok (.lcmp, 1) := by decide +kernel
theorem dX3_offer_84 : decode cX3_offer 84 = .ok (.ifCond .le 31, 3) := by decide +kernel
theorem dX3_offer_87 : decode cX3_offer 87 = .ok (.aload_n 0, 1) := by decide +kernel
theorem dX3_offer_88 : decode cX3_offer 88 = .ok (.getfield 22, 3) := by decide +kernel
theorem dX3_offer_91 : decode cX3_offer 91 = .ok (.iload 4, 2) := by decide +kernel
theorem dX3_offer_93 : decode cX3_offer 93 = .ok (.iload 5, 2) := by decide +kernel
theorem dX3_offer_95 : decode cX3_offer 95 = .ok (.iadd, 1) := by decide +kernel
theorem dX3_offer_96 : decode cX3_offer 96 = .ok (.aload_n 0, 1) := by decide +kernel
theorem dX3_offer_97 : decode cX3_offer 97 = .ok (.getfield 22, 3) := by decide +kernel
theorem dX3_offer_100 : decode cX3_offer 100 = .ok (.iload 4, 2) := by decide +kernel
theorem dX3_offer_102 : decode cX3_offer 102 = .ok (.iload 5, 2) := by decide +kernel
theorem dX3_offer_104 : decode cX3_offer 104 = .ok (.iadd, 1) := by decide +kernel
theorem dX3_offer_105 : decode cX3_offer 105 = .ok (.iconst 1, 1) := by decide +kernel
theorem dX3_offer_106 : decode cX3_offer 106 = .ok (.isub, 1) := by decide +kernel
theorem dX3_offer_107 : decode cX3_offer 107 = .ok (.laload, 1) := by decide +kernel
theorem dX3_offer_108 : decode cX3_offer 108 = .ok (.lastore, 1) := by decide +kernel
theorem dX3_offer_109 : decode cX3_offer 109 = .ok (.iinc 5 (-1), 3) := by decide +kernel
theorem dX3_offer_112 : decode cX3_offer 112 = .ok (.goto (-53), 3) := by decide +kernel
theorem dX3_offer_115 : decode cX3_offer 115 = .ok (.aload_n 0, 1) := by decide +kernel
theorem dX3_offer_116 : decode cX3_offer 116 = .ok (.getfield 22, 3) := by decide +kernel
theorem dX3_offer_119 : decode cX3_offer 119 = .ok (.iload 4, 2) := by decide +kernel
theorem dX3_offer_121 : decode cX3_offer 121 = .ok (.iload 5, 2) := by decide +kernel
theorem dX3_offer_123 : decode cX3_offer 123 = .ok (.iadd, 1) := by decide +kernel
theorem dX3_offer_124 : decode cX3_offer 124 = .ok (.lload_n 2, 1) := by decide +kernel
theorem dX3_offer_125 : decode cX3_offer 125 = .ok (.lastore, 1) := by decide +kernel
theorem dX3_offer_126 : decode cX3_offer 126 = .ok (.aload_n 0, 1) := by decide +kernel
theorem dX3_offer_127 : decode cX3_offer 127 = .ok (.getfield 25, 3) := by decide +kernel
theorem dX3_offer_130 : decode cX3_offer 130 = .ok (.iload_n 1, 1) := by decide +kernel
theorem dX3_offer_131 : decode cX3_offer 131 = .ok (.dup2, 1) := by decide +kernel
theorem dX3_offer_132 : decode cX3_offer 132 = .ok (.iaload, 1) := by decide +kernel
theorem dX3_offer_133 : decode cX3_offer 133 = .ok (.iconst 1, 1) := by decide +kernel
theorem dX3_offer_134 : decode cX3_offer 134 = .ok (.iadd, 1) := by decide +kernel
theorem dX3_offer_135 : decode cX3_offer 135 = .ok (.iastore, 1) := by decide +kernel
theorem dX3_offer_136 : decode cX3_offer 136 = .ok (.iload 5, 2) := by decide +kernel
theorem dX3_offer_138 : decode cX3_offer 138 = .ok (.aload_n 0, 1) := by decide +kernel
theorem dX3_offer_139 : decode cX3_offer 139 = .ok (.getfield 29, 3) := by decide +kernel
theorem dX3_offer_142 : decode cX3_offer 142 = .ok (.iload_n 1, 1) := by decide +kernel
theorem dX3_offer_143 : decode cX3_offer 143 = .ok (.iaload, 1) := by decide +kernel
theorem dX3_offer_144 : decode cX3_offer 144 = .ok (.if_icmp .ne 12, 3) := by decide +kernel
theorem dX3_offer_147 : decode cX3_offer 147 = .ok (.aload_n 0, 1) := by decide +kernel
theorem dX3_offer_148 : decode cX3_offer 148 = .ok (.getfield 12, 3) := by decide +kernel
theorem dX3_offer_151 : decode cX3_offer 151 = .ok (.iload_n 1, 1) := by decide +kernel
theorem dX3_offer_152 : decode cX3_offer 152 = .ok (.lload_n 2, 1) := by decide +kernel
theorem dX3_offer_153 : decode cX3_offer 153 = .ok (.invokevirtual 117, 3) := by decide +kernel
theorem dX3_offer_156 : decode cX3_offer 156 = .ok (.return_, 1) := by decide +kernel
theorem dX4_init_0 : decode cX4_init 0 = .ok (.aload_n 0, 1) := by decide +kernel
theorem dX4_init_1 : decode cX4_init 1 = .ok (.invokespecial 3, 3) := by decide +kernel
theorem dX4_init_4 : decode cX4_init 4 = .ok (.aload_n 0, 1) := by decide +kernel
theorem dX4_init_5 : decode cX4_init 5 = .ok (.sipush 200, 3) := by decide +kernel
theorem dX4_init_8 : decode cX4_init 8 = .ok (.newarray .long, 2) := by decide +kernel
theorem dX4_init_10 : decode cX4_init 10 = .ok (.putfield 9, 3) := by decide +kernel
theorem dX4_init_13 : decode cX4_init 13 = .ok (.return_, 1) := by decide +kernel
theorem dX4_drop_0 : decode cX4_drop 0 = .ok (.aload_n 0, 1) := by decide +kernel
theorem dX4_drop_1 : decode cX4_drop 1 = .ok (.aconst_null, 1) := by decide +kernel
theorem dX4_drop_2 : decode cX4_drop 2 = .ok (.putfield 15, 3) := by decide +kernel
theorem dX4_drop_5 : decode cX4_drop 5 = .ok (.return_, 1) := by decide +kernel
theorem dX4_plant_0 : decode cX4_plant 0 = .ok (.aload_n 0, 1) := by decide +kernel
theorem dX4_plant_1 : decode cX4_plant 1 = .ok (.iload_n 1, 1) := by decide +kernel
theorem dX4_plant_2 : decode cX4_plant 2 = .ok (.putfield 19, 3) := by decide +kernel
theorem dX4_plant_5 : decode cX4_plant 5 = .ok (.aload_n 0, 1) := by decide +kernel
theorem dX4_plant_6 : decode cX4_plant 6 = .ok (.aload_n 2, 1) := by decide +kernel
theorem dX4_plant_7 : decode cX4_plant 7 = .ok (.putfield 15, 3) := by decide +kernel
theorem dX4_plant_10 : decode cX4_plant 10 = .ok (.aload_n 0, 1) := by decide +kernel
theorem dX4_plant_11 : decode cX4_plant 11 = .ok (.iload_n 3, 1) := by decide +kernel
theorem dX4_plant_12 : decode cX4_plant 12 = .ok (.putfield 23, 3) := by decide +kernel
theorem dX4_plant_15 : decode cX4_plant 15 = .ok (.return_, 1) := by decide +kernel
set_option maxRecDepth 20000 in
theorem ggX4_redo_X3_spread : GoodIn wsX4_redo wsX3_spread := goodIn_r _ [11, 12, 13, 14, 15, 16, 17, 18, 19, 20, 21, 22, 23, 24, 10, 25, 26, 27, 28, 29, 30, 31, 32, 33, 34, 35, 36, 37, 38, 39, 40, 41, 42, 43, 44, 45, 46, 47, 48, 49, 50, 51, 52, 53, 54, 55, 56, 57, 58, 59, 60, 61, 62, 63, 64, 65, 66, 67, 68, 69, 70, 71, 72, 73, 74, 75, 76, 77, 78, 79, 80, 81, 82, 83, 84, 85, 86, 87, 88, 89, 90, 91, 92, 93, 94, 95, 96, 97, 98, 99, 100, 101, 102, 103, 104, 105, 106, 107, 108, 109, 110, 111, 112, 113, 114, 127, 128, 129, 130, 131, 132, 133, 134, 135, 136, 137, 138, 139, 140, 141, 142, 143, 144, 145, 146, 147, 148, 149, 150, 151, 152, 153, 154, 155, 156, 157, 158, 159, 160, 161] (by decide +kernel) (by decide +kernel)
set_option maxRecDepth 20000 in
theorem gX4_redo_X3_spread : GoodIn wsX4_redo (wsV RX4 26 RX3 yX3_spread wsX3_spread) := goodIn_app (goodIn_of _ (by decide +kernel)) ggX4_redo_X3_spread
set_option maxRecDepth 20000 in
theorem ggX4_redo_X3_leastTo : GoodIn wsX4_redo wsX3_leastTo := goodIn_r _ [118, 119, 120, 121, 10, 122, 13, 85, 30, 127, 128, 129, 130, 131, 132, 133] (by decide +kernel) (by decide +kernel)
set_option maxRecDepth 20000 in
theorem gX4_redo_X3_leastTo : GoodIn wsX4_redo (wsV RX4 41 RX3 yX3_leastTo wsX3_leastTo) := goodIn_app (goodIn_of _ (by decide +kernel)) ggX4_redo_X3_leastTo
theorem dX4_redo_0 : decode cX4_redo 0 = .ok (.aload_n 0, 1) := by decide +kernel
theorem dX4_redo_1 : decode cX4_redo 1 = .ok (.getfield 15, 3) := by decide +kernel
theorem dX4_redo_4 : decode cX4_redo 4 = .ok (.ifnonnull 5, 3) := by decide +kernel
theorem dX4_redo_7 : decode cX4_redo 7 = .ok (.iconst 0, 1) := by decide +kernel
theorem dX4_redo_8 : decode cX4_redo 8 = .ok (.ireturn, 1) := by decide +kernel
theorem dX4_redo_9 : decode cX4_redo 9 = .ok (.aload_n 1, 1) := by decide +kernel
theorem dX4_redo_10 : decode cX4_redo 10 = .ok (.aload_n 0, 1) := by decide +kernel
theorem dX4_redo_11 : decode cX4_redo 11 = .ok (.getfield 19, 3) := by decide +kernel
theorem dX4_redo_14 : decode cX4_redo 14 = .ok (.aload_n 0, 1) := by decide +kernel
theorem dX4_redo_15 : decode cX4_redo 15 = .ok (.getfield 15, 3) := by decide +kernel
theorem dX4_redo_18 : decode cX4_redo 18 = .ok (.aload_n 0, 1) := by decide +kernel
theorem dX4_redo_19 : decode cX4_redo 19 = .ok (.getfield 23, 3) := by decide +kernel
theorem dX4_redo_22 : decode cX4_redo 22 = .ok (.iconst 1, 1) := by decide +kernel
theorem dX4_redo_23 : decode cX4_redo 23 = .ok (.invokevirtual 26, 3) := by decide +kernel
theorem dX4_redo_26 : decode cX4_redo 26 = .ok (.iconst 0, 1) := by decide +kernel
theorem dX4_redo_27 : decode cX4_redo 27 = .ok (.istore_n 2, 1) := by decide +kernel
theorem dX4_redo_28 : decode cX4_redo 28 = .ok (.iconst 0, 1) := by decide +kernel
theorem dX4_redo_29 : decode cX4_redo 29 = .ok (.istore_n 3, 1) := by decide +kernel
theorem dX4_redo_30 : decode cX4_redo 30 = .ok (.iload_n 3, 1) := by decide +kernel
theorem dX4_redo_31 : decode cX4_redo 31 = .ok (.aload_n 1, 1) := by decide +kernel
theorem dX4_redo_32 : decode cX4_redo 32 = .ok (.getfield 32, 3) := by decide +kernel
theorem dX4_redo_35 : decode cX4_redo 35 = .ok (.getfield 36, 3) := by decide +kernel
theorem dX4_redo_38 : decode cX4_redo 38 = .ok (.if_icmp .ge 38, 3) := by decide +kernel
theorem dX4_redo_41 : decode cX4_redo 41 = .ok (.aload_n 1, 1) := by decide +kernel
theorem dX4_redo_42 : decode cX4_redo 42 = .ok (.iload_n 3, 1) := by decide +kernel
theorem dX4_redo_43 : decode cX4_redo 43 = .ok (.invokevirtual 41, 3) := by decide +kernel
theorem dX4_redo_46 : decode cX4_redo 46 = .ok (.lstore 4, 2) := by decide +kernel
theorem dX4_redo_48 : decode cX4_redo 48 = .ok (.aload_n 0, 1) := by decide +kernel
theorem dX4_redo_49 : decode cX4_redo 49 = .ok (.getfield 9, 3) := by decide +kernel
theorem dX4_redo_52 : decode cX4_redo 52 = .ok (.iload_n 3, 1) := by decide +kernel
theorem dX4_redo_53 : decode cX4_redo 53 = .ok (.laload, 1) := by decide +kernel
theorem dX4_redo_54 : decode cX4_redo 54 = .ok (.lload 4, 2) := by decide +kernel
theorem dX4_redo_56 : decode cX4_redo 56 = .ok (.lcmp, 1) := by decide +kernel
theorem dX4_redo_57 : decode cX4_redo 57 = .ok (.ifCond .eq 13, 3) := by decide +kernel
theorem dX4_redo_60 : decode cX4_redo 60 = .ok (.aload_n 0, 1) := by decide +kernel
theorem dX4_redo_61 : decode cX4_redo 61 = .ok (.getfield 9, 3) := by decide +kernel
theorem dX4_redo_64 : decode cX4_redo 64 = .ok (.iload_n 3, 1) := by decide +kernel
theorem dX4_redo_65 : decode cX4_redo 65 = .ok (.lload 4, 2) := by decide +kernel
theorem dX4_redo_67 : decode cX4_redo 67 = .ok (.lastore, 1) := by decide +kernel
theorem dX4_redo_68 : decode cX4_redo 68 = .ok (.iconst 1, 1) := by decide +kernel
theorem dX4_redo_69 : decode cX4_redo 69 = .ok (.istore_n 2, 1) := by decide +kernel
theorem dX4_redo_70 : decode cX4_redo 70 = .ok (.iinc 3 1, 3) := by decide +kernel
theorem dX4_redo_73 : decode cX4_redo 73 = .ok (.goto (-43), 3) := by decide +kernel
theorem dX4_redo_76 : decode cX4_redo 76 = .ok (.iload_n 2, 1) := by decide +kernel
theorem dX4_redo_77 : decode cX4_redo 77 = .ok (.ireturn, 1) := by decide +kernel
theorem dX5_init_0 : decode cX5_init 0 = .ok (.aload_n 0, 1) := by decide +kernel
theorem dX5_init_1 : decode cX5_init 1 = .ok (.invokespecial 1, 3) := by decide +kernel
theorem dX5_init_4 : decode cX5_init 4 = .ok (.aload_n 0, 1) := by decide +kernel
theorem dX5_init_5 : decode cX5_init 5 = .ok (.iload_n 1, 1) := by decide +kernel
theorem dX5_init_6 : decode cX5_init 6 = .ok (.putfield 7, 3) := by decide +kernel
theorem dX5_init_9 : decode cX5_init 9 = .ok (.aload_n 0, 1) := by decide +kernel
theorem dX5_init_10 : decode cX5_init 10 = .ok (.iload_n 2, 1) := by decide +kernel
theorem dX5_init_11 : decode cX5_init 11 = .ok (.putfield 13, 3) := by decide +kernel
theorem dX5_init_14 : decode cX5_init 14 = .ok (.aload_n 0, 1) := by decide +kernel
theorem dX5_init_15 : decode cX5_init 15 = .ok (.iload_n 3, 1) := by decide +kernel
theorem dX5_init_16 : decode cX5_init 16 = .ok (.putfield 16, 3) := by decide +kernel
theorem dX5_init_19 : decode cX5_init 19 = .ok (.aload_n 0, 1) := by decide +kernel
theorem dX5_init_20 : decode cX5_init 20 = .ok (.iload 4, 2) := by decide +kernel
theorem dX5_init_22 : decode cX5_init 22 = .ok (.putfield 19, 3) := by decide +kernel
theorem dX5_init_25 : decode cX5_init 25 = .ok (.aload_n 0, 1) := by decide +kernel
theorem dX5_init_26 : decode cX5_init 26 = .ok (.iload 5, 2) := by decide +kernel
theorem dX5_init_28 : decode cX5_init 28 = .ok (.putfield 22, 3) := by decide +kernel
theorem dX5_init_31 : decode cX5_init 31 = .ok (.return_, 1) := by decide +kernel
set_option maxRecDepth 20000 in
theorem ggX6_init_X0_init : GoodIn wsX6_init wsX0_init := goodIn_r _ [20, 21, 2, 3, 22, 23, 24, 25, 26, 14, 27, 28, 29, 30, 31, 32, 33, 34, 35, 36, 37, 38, 39, 40, 41, 42, 43, 44, 45, 46, 47, 95, 96, 97, 74, 75, 76, 77, 78] (by decide +kernel) (by decide +kernel)
set_option maxRecDepth 20000 in
theorem gX6_init_X0_init : GoodIn wsX6_init (wsX0_init) := ggX6_init_X0_init
set_option maxRecDepth 20000 in
theorem ggX6_init_X3_init : GoodIn wsX6_init wsX3_init := goodIn_r _ [50, 51, 2, 3, 52, 53, 54, 55, 56, 57, 58, 14, 59, 60, 61, 62, 63, 64, 65, 66, 67, 68, 69, 45, 46, 47, 98, 99, 100, 101, 84, 85, 86, 87, 88, 89, 90] (by decide +kernel) (by decide +kernel)
set_option maxRecDepth 20000 in
theorem gX6_init_X3_init : GoodIn wsX6_init (wsX3_init) := ggX6_init_X3_init
set_option maxRecDepth 20000 in
theorem ggX6_init_X4_init : GoodIn wsX6_init wsX4_init := goodIn_r _ [71, 72, 2, 3, 56, 73, 91, 92, 93, 94] (by decide +kernel) (by decide +kernel)
set_option maxRecDepth 20000 in
theorem gX6_init_X4_init_n35 : GoodIn wsX6_init (wsX4_init) := ggX6_init_X4_init
theorem dX6_init_0 : decode cX6_init 0 = .ok (.aload_n 0, 1) := by decide +kernel
theorem dX6_init_1 : decode cX6_init 1 = .ok (.invokespecial 1, 3) := by decide +kernel
theorem dX6_init_4 : decode cX6_init 4 = .ok (.aload_n 0, 1) := by decide +kernel
theorem dX6_init_5 : decode cX6_init 5 = .ok (.new 7, 3) := by decide +kernel
theorem dX6_init_8 : decode cX6_init 8 = .ok (.dup, 1) := by decide +kernel
theorem dX6_init_9 : decode cX6_init 9 = .ok (.invokespecial 9, 3) := by decide +kernel
theorem dX6_init_12 : decode cX6_init 12 = .ok (.putfield 10, 3) := by decide +kernel
theorem dX6_init_15 : decode cX6_init 15 = .ok (.aload_n 0, 1) := by decide +kernel
theorem dX6_init_16 : decode cX6_init 16 = .ok (.new 16, 3) := by decide +kernel
theorem dX6_init_19 : decode cX6_init 19 = .ok (.dup, 1) := by decide +kernel
theorem dX6_init_20 : decode cX6_init 20 = .ok (.aload_n 0, 1) := by decide +kernel
theorem dX6_init_21 : decode cX6_init 21 = .ok (.getfield 10, 3) := by decide +kernel
theorem dX6_init_24 : decode cX6_init 24 = .ok (.invokespecial 18, 3) := by decide +kernel
theorem dX6_init_27 : decode cX6_init 27 = .ok (.putfield 21, 3) := by decide +kernel
theorem dX6_init_30 : decode cX6_init 30 = .ok (.aload_n 0, 1) := by decide +kernel
theorem dX6_init_31 : decode cX6_init 31 = .ok (.bipush 6, 2) := by decide +kernel
theorem dX6_init_33 : decode cX6_init 33 = .ok (.anewarray 25, 3) := by decide +kernel
theorem dX6_init_36 : decode cX6_init 36 = .ok (.putfield 27, 3) := by decide +kernel
theorem dX6_init_39 : decode cX6_init 39 = .ok (.aload_n 0, 1) := by decide +kernel
theorem dX6_init_40 : decode cX6_init 40 = .ok (.sipush 150, 3) := by decide +kernel
theorem dX6_init_43 : decode cX6_init 43 = .ok (.newarray .int, 2) := by decide +kernel
theorem dX6_init_45 : decode cX6_init 45 = .ok (.putfield 31, 3) := by decide +kernel
theorem dX6_init_48 : decode cX6_init 48 = .ok (.iconst 0, 1) := by decide +kernel
theorem dX6_init_49 : decode cX6_init 49 = .ok (.istore_n 1, 1) := by decide +kernel
theorem dX6_init_50 : decode cX6_init 50 = .ok (.iload_n 1, 1) := by decide +kernel
theorem dX6_init_51 : decode cX6_init 51 = .ok (.bipush 6, 2) := by decide +kernel
theorem dX6_init_53 : decode cX6_init 53 = .ok (.if_icmp .ge 22, 3) := by decide +kernel
theorem dX6_init_56 : decode cX6_init 56 = .ok (.aload_n 0, 1) := by decide +kernel
theorem dX6_init_57 : decode cX6_init 57 = .ok (.getfield 27, 3) := by decide +kernel
theorem dX6_init_60 : decode cX6_init 60 = .ok (.iload_n 1, 1) := by decide +kernel
theorem dX6_init_61 : decode cX6_init 61 = .ok (.new 25, 3) := by decide +kernel
theorem dX6_init_64 : decode cX6_init 64 = .ok (.dup, 1) := by decide +kernel
theorem dX6_init_65 : decode cX6_init 65 = .ok (.invokespecial 35, 3) := by decide +kernel
theorem dX6_init_68 : decode cX6_init 68 = .ok (.aastore, 1) := by decide +kernel
theorem dX6_init_69 : decode cX6_init 69 = .ok (.iinc 1 1, 3) := by decide +kernel
theorem dX6_init_72 : decode cX6_init 72 = .ok (.goto (-22), 3) := by decide +kernel
theorem dX6_init_75 : decode cX6_init 75 = .ok (.return_, 1) := by decide +kernel
set_option maxRecDepth 20000 in
theorem ggX6_net_X0_begin : GoodIn wsX6_net wsX0_begin := goodIn_r _ [13, 14, 15, 16, 17, 18, 19, 20, 21, 22, 23, 24, 25, 26, 27, 28, 29, 30, 48, 49, 50, 51, 52, 53, 54, 55] (by decide +kernel) (by decide +kernel)
set_option maxRecDepth 20000 in
theorem gX6_net_X0_begin : GoodIn wsX6_net (wsV RX6 48 RX0 yX0_begin wsX0_begin) := goodIn_app (goodIn_of _ (by decide +kernel)) ggX6_net_X0_begin
set_option maxRecDepth 20000 in
theorem ggX6_net_X4_drop : GoodIn wsX6_net wsX4_drop := goodIn_r _ [35, 36, 56, 57, 58, 59] (by decide +kernel) (by decide +kernel)
set_option maxRecDepth 20000 in
theorem gX6_net_X4_drop : GoodIn wsX6_net (wsV RX6 52 RX4 yX4_drop wsX4_drop) := goodIn_app (goodIn_of _ (by decide +kernel)) ggX6_net_X4_drop
theorem dX6_net_0 : decode cX6_net 0 = .ok (.iload_n 1, 1) := by decide +kernel
theorem dX6_net_1 : decode cX6_net 1 = .ok (.sipush 200, 3) := by decide +kernel
theorem dX6_net_4 : decode cX6_net 4 = .ok (.if_icmp .le 13, 3) := by decide +kernel
theorem dX6_net_7 : decode cX6_net 7 = .ok (.new 36, 3) := by decide +kernel
theorem dX6_net_10 : decode cX6_net 10 = .ok (.dup, 1) := by decide +kernel
theorem dX6_net_11 : decode cX6_net 11 = .ok (.ldc 38, 2) := by decide +kernel
theorem dX6_net_13 : decode cX6_net 13 = .ok (.invokespecial 40, 3) := by decide +kernel
theorem dX6_net_16 : decode cX6_net 16 = .ok (.athrow, 1) := by decide +kernel
theorem dX6_net_17 : decode cX6_net 17 = .ok (.iload_n 1, 1) := by decide +kernel
theorem dX6_net_18 : decode cX6_net 18 = .ok (.ifCond .ge 13, 3) := by decide +kernel
theorem dX6_net_21 : decode cX6_net 21 = .ok (.new 43, 3) := by decide +kernel
theorem dX6_net_24 : decode cX6_net 24 = .ok (.dup, 1) := by decide +kernel
theorem dX6_net_25 : decode cX6_net 25 = .ok (.ldc 45, 2) := by decide +kernel
theorem dX6_net_27 : decode cX6_net 27 = .ok (.invokespecial 47, 3) := by decide +kernel
theorem dX6_net_30 : decode cX6_net 30 = .ok (.athrow, 1) := by decide +kernel
theorem dX6_net_31 : decode cX6_net 31 = .ok (.aload_n 0, 1) := by decide +kernel
theorem dX6_net_32 : decode cX6_net 32 = .ok (.getfield 10, 3) := by decide +kernel
theorem dX6_net_35 : decode cX6_net 35 = .ok (.iload_n 1, 1) := by decide +kernel
theorem dX6_net_36 : decode cX6_net 36 = .ok (.invokevirtual 48, 3) := by decide +kernel
theorem dX6_net_39 : decode cX6_net 39 = .ok (.iconst 0, 1) := by decide +kernel
theorem dX6_net_40 : decode cX6_net 40 = .ok (.istore_n 2, 1) := by decide +kernel
theorem dX6_net_41 : decode cX6_net 41 = .ok (.iload_n 2, 1) := by decide +kernel
theorem dX6_net_42 : decode cX6_net 42 = .ok (.bipush 6, 2) := by decide +kernel
theorem dX6_net_44 : decode cX6_net 44 = .ok (.if_icmp .ge 18, 3) := by decide +kernel
theorem dX6_net_47 : decode cX6_net 47 = .ok (.aload_n 0, 1) := by decide +kernel
theorem dX6_net_48 : decode cX6_net 48 = .ok (.getfield 27, 3) := by decide +kernel
theorem dX6_net_51 : decode cX6_net 51 = .ok (.iload_n 2, 1) := by decide +kernel
theorem dX6_net_52 : decode cX6_net 52 = .ok (.aaload, 1) := by decide +kernel
theorem dX6_net_53 : decode cX6_net 53 = .ok (.invokevirtual 52, 3) := by decide +kernel
theorem dX6_net_56 : decode cX6_net 56 = .ok (.iinc 2 1, 3) := by decide +kernel
theorem dX6_net_59 : decode cX6_net 59 = .ok (.goto (-18), 3) := by decide +kernel
theorem dX6_net_62 : decode cX6_net 62 = .ok (.aload_n 0, 1) := by decide +kernel
theorem dX6_net_63 : decode cX6_net 63 = .ok (.iconst 0, 1) := by decide +kernel
theorem dX6_net_64 : decode cX6_net 64 = .ok (.putfield 55, 3) := by decide +kernel
theorem dX6_net_67 : decode cX6_net 67 = .ok (.return_, 1) := by decide +kernel
set_option maxRecDepth 20000 in
theorem ggX6_piece_X6_needNode : GoodIn wsX6_piece wsX6_needNode := goodIn_ca (goodIn_r _ [15, 1, 2, 6, 16, 230, 231, 232, 233, 234, 235, 236, 237, 238, 239] (by decide +kernel) (by decide +kernel)) (goodIn_sub (fun _ h => List.mem_cons_of_mem _ (List.mem_append_left _ (List.mem_append_left _ (List.mem_append_right _ h)))) (by decide +kernel))
set_option maxRecDepth 20000 in
theorem gX6_piece_X6_needNode : GoodIn wsX6_piece (wsV RX6 59 RX6 yX6_needNode wsX6_needNode) := goodIn_app (goodIn_of _ (by decide +kernel)) ggX6_piece_X6_needNode
set_option maxRecDepth 20000 in
theorem ggX6_piece_X6_needWithin : GoodIn wsX6_piece wsX6_needWithin := goodIn_ca (goodIn_r _ [19, 20, 21] (by decide +kernel) (by decide +kernel)) (goodIn_sub (fun _ h => List.mem_cons_of_mem _ (List.mem_append_right _ h)) (by decide +kernel))
set_option maxRecDepth 20000 in
theorem gX6_piece_X6_needWithin : GoodIn wsX6_piece (va_wsS RX6 65 yX6_needWithin wsX6_needWithin) := goodIn_app (goodIn_of _ (by decide +kernel)) ggX6_piece_X6_needWithin
set_option maxRecDepth 20000 in
theorem ggX6_piece_Jx4a65c_size_8abf5 : GoodIn wsX6_piece wsJx4a65c_size_8abf5 := goodIn_r _ [26, 27, 251, 252, 253] (by decide +kernel) (by decide +kernel)
set_option maxRecDepth 20000 in
theorem gX6_piece_Jx4a65c_size_8abf5 : GoodIn wsX6_piece (wsV RX6 73 RJx4a65c yJx4a65c_size_8abf5 wsJx4a65c_size_8abf5) := goodIn_app (goodIn_of _ (by decide +kernel)) ggX6_piece_Jx4a65c_size_8abf5
set_option maxRecDepth 20000 in
theorem ggX6_piece_X2_init : GoodIn wsX6_piece wsX2_init := goodIn_r _ [30, 31, 32, 33, 34, 35, 36, 37, 38, 39, 40, 41, 240, 241, 242, 243, 244, 245, 246, 247, 248, 249, 250] (by decide +kernel) (by decide +kernel)
set_option maxRecDepth 20000 in
theorem gX6_piece_X2_init : GoodIn wsX6_piece (wsX2_init) := ggX6_piece_X2_init
set_option maxRecDepth 20000 in
theorem ggX6_piece_X0_addPiece : GoodIn wsX6_piece wsX0_addPiece := goodIn_r _ [46, 47, 48, 49, 50, 23, 24, 25, 26, 27, 51, 52, 53, 54, 55, 56, 57, 58, 59, 60, 61, 62, 63, 64, 65, 66, 67, 68, 69, 70, 71, 72, 73, 74, 75, 76, 77, 78, 79, 80, 81, 82, 83, 84, 85, 86, 87, 88, 89, 90, 91, 92, 93, 94, 95, 96, 97, 98, 99, 100, 101, 102, 103, 104, 105, 106, 107, 45, 108, 109, 110, 235, 236, 237, 238, 239, 240, 241, 242, 243, 244, 245, 246, 247, 248, 249, 250, 251, 252, 253] (by decide +kernel) (by decide +kernel)
set_option maxRecDepth 20000 in
theorem gX6_piece_X0_addPiece : GoodIn wsX6_piece (wsV RX6 89 RX0 yX0_addPiece wsX0_addPiece) := goodIn_app (goodIn_of _ (by decide +kernel)) ggX6_piece_X0_addPiece
set_option maxRecDepth 20000 in
theorem ggX6_piece_X6_redoTrees : GoodIn wsX6_piece wsX6_redoTrees := goodIn_r _ [114, 115, 116, 117, 118, 119, 120, 121, 122, 123, 124, 125, 126, 127, 128, 129, 130, 131, 132, 133, 134, 135, 136, 137, 138, 139, 140, 87, 141, 142, 143, 144, 145, 146, 147, 148, 149, 150, 151, 23, 24, 25, 26, 27, 152, 153, 154, 155, 156, 157, 158, 159, 160, 161, 162, 163, 164, 165, 166, 167, 57, 168, 169, 170, 10, 171, 172, 41, 173, 174, 175, 176, 177, 178, 179, 180, 181, 182, 183, 184, 185, 186, 187, 188, 189, 35, 36, 37, 190, 191, 192, 193, 194, 195, 196, 197, 198, 199, 200, 201, 202, 203, 204, 205, 206, 207, 208, 209, 210, 211, 212, 213, 214, 215, 216, 217, 218, 219, 220, 221, 38, 39, 222, 223, 224, 225, 226, 227, 228, 229, 230, 231, 232, 233, 234, 254, 255, 256, 257, 258, 259, 260, 261, 262, 263, 264, 235, 236, 237, 238, 239, 240, 241, 242, 243, 244, 245, 246, 247, 248, 249, 250, 251, 252, 253, 265, 266, 267, 268, 269, 270, 271, 272, 273] (by decide +kernel) (by decide +kernel)
set_option maxRecDepth 20000 in
theorem gX6_piece_X6_redoTrees : GoodIn wsX6_piece (wsV RX6 93 RX6 yX6_redoTrees wsX6_redoTrees) := goodIn_app (goodIn_of _ (by decide +kernel)) ggX6_piece_X6_redoTrees
theorem dX6_piece_0 : decode cX6_piece 0 = .ok (.aload_n 0, 1) := by decide +kernel
theorem dX6_piece_1 : decode cX6_piece 1 = .ok (.iload_n 1, 1) := by decide +kernel
theorem dX6_piece_2 : decode cX6_piece 2 = .ok (.invokevirtual 59, 3) := by decide +kernel
theorem dX6_piece_5 : decode cX6_piece 5 = .ok (.aload_n 0, 1) := by decide +kernel
theorem dX6_piece_6 : decode cX6_piece 6 = .ok (.iload_n 2, 1) := by decide +kernel
theorem dX6_piece_7 : decode cX6_piece 7 = .ok (.invokevirtual 59, 3) := by decide +kernel
theorem dX6_piece_10 : decode cX6_piece 10 = .ok (.iload_n 1, 1) := by decide +kernel
theorem dX6_piece_11 : decode cX6_piece 11 = .ok (.iload_n 2, 1) := by decide +kernel
theorem dX6_piece_12 : decode cX6_piece 12 = .ok (.if_icmp .ne 13, 3) := by decide +kernel
theorem dX6_piece_15 : decode cX6_piece 15 = .ok (.new 36, 3) := by decide +kernel
theorem dX6_piece_18 : decode cX6_piece 18 = .ok (.dup, 1) := by decide +kernel
theorem dX6_piece_19 : decode cX6_piece 19 = .ok (.ldc 62, 2) := by decide +kernel
theorem dX6_piece_21 : decode cX6_piece 21 = .ok (.invokespecial 40, 3) := by decide +kernel
theorem dX6_piece_24 : decode cX6_piece 24 = .ok (.athrow, 1) := by decide +kernel
theorem dX6_piece_25 : decode cX6_piece 25 = .ok (.iload_n 3, 1) := by decide +kernel
theorem dX6_piece_26 : decode cX6_piece 26 = .ok (.iconst 1, 1) := by decide +kernel
theorem dX6_piece_27 : decode cX6_piece 27 = .ok (.ldc 64, 2) := by decide +kernel
theorem dX6_piece_29 : decode cX6_piece 29 = .ok (.invokestatic 65, 3) := by decide +kernel
theorem dX6_piece_32 : decode cX6_piece 32 = .ok (.iload 4, 2) := by decide +kernel
theorem dX6_piece_34 : decode cX6_piece 34 = .ok (.iconst 0, 1) := by decide +kernel
theorem dX6_piece_35 : decode cX6_piece 35 = .ok (.sipush 200, 3) := by decide +kernel
theorem dX6_piece_38 : decode cX6_piece 38 = .ok (.invokestatic 65, 3) := by decide +kernel
theorem dX6_piece_41 : decode cX6_piece 41 = .ok (.aload_n 0, 1) := by decide +kernel
theorem dX6_piece_42 : decode cX6_piece 42 = .ok (.getfield 10, 3) := by decide +kernel
theorem dX6_piece_45 : decode cX6_piece 45 = .ok (.getfield 69, 3) := by decide +kernel
theorem dX6_piece_48 : decode cX6_piece 48 = .ok (.invokevirtual 73, 3) := by decide +kernel
theorem dX6_piece_51 : decode cX6_piece 51 = .ok (.sipush 150, 3) := by decide +kernel
theorem dX6_piece_54 : decode cX6_piece 54 = .ok (.if_icmp .lt 13, 3) := by decide +kernel
theorem dX6_piece_57 : decode cX6_piece 57 = .ok (.new 79, 3) := by decide +kernel
theorem dX6_piece_60 : decode cX6_piece 60 = .ok (.dup, 1) := by decide +kernel
theorem dX6_piece_61 : decode cX6_piece 61 = .ok (.ldc 81, 2) := by decide +kernel
theorem dX6_piece_63 : decode cX6_piece 63 = .ok (.invokespecial 83, 3) := by decide +kernel
theorem dX6_piece_66 : decode cX6_piece 66 = .ok (.athrow, 1) := by decide +kernel
theorem dX6_piece_67 : decode cX6_piece 67 = .ok (.aload_n 0, 1) := by decide +kernel
theorem dX6_piece_68 : decode cX6_piece 68 = .ok (.getfield 10, 3) := by decide +kernel
theorem dX6_piece_71 : decode cX6_piece 71 = .ok (.new 84, 3) := by decide +kernel
theorem dX6_piece_74 : decode cX6_piece 74 = .ok (.dup, 1) := by decide +kernel
theorem dX6_piece_75 : decode cX6_piece 75 = .ok (.iload_n 1, 1) := by decide +kernel
theorem dX6_piece_76 : decode cX6_piece 76 = .ok (.iload_n 2, 1) := by decide +kernel
theorem dX6_piece_77 : decode cX6_piece 77 = .ok (.iload_n 3, 1) := by decide +kernel
theorem dX6_piece_78 : decode cX6_piece 78 = .ok (.iload 4, 2) := by decide +kernel
theorem dX6_piece_80 : decode cX6_piece 80 = .ok (.invokespecial 86, 3) := by decide +kernel
theorem dX6_piece_83 : decode cX6_piece 83 = .ok (.invokevirtual 89, 3) := by decide +kernel
theorem dX6_piece_86 : decode cX6_piece 86 = .ok (.aload_n 0, 1) := by decide +kernel
theorem dX6_piece_87 : decode cX6_piece 87 = .ok (.invokevirtual 93, 3) := by decide +kernel
theorem dX6_piece_90 : decode cX6_piece 90 = .ok (.pop, 1) := by decide +kernel
theorem dX6_piece_91 : decode cX6_piece 91 = .ok (.aload_n 0, 1) := by decide +kernel
theorem dX6_piece_92 : decode cX6_piece 92 = .ok (.getfield 10, 3) := by decide +kernel
theorem dX6_piece_95 : decode cX6_piece 95 = .ok (.getfield 69, 3) := by decide +kernel
theorem dX6_piece_98 : decode cX6_piece 98 = .ok (.invokevirtual 73, 3) := by decide +kernel
theorem dX6_piece_101 : decode cX6_piece 101 = .ok (.iconst 1, 1) := by decide +kernel
theorem dX6_piece_102 : decode cX6_piece 102 = .ok (.isub, 1) := by decide +kernel
theorem dX6_piece_103 : decode cX6_piece 103 = .ok (.ireturn, 1) := by decide +kernel
set_option maxRecDepth 20000 in
theorem ggX6_limit_X6_knownPiece : GoodIn wsX6_limit wsX6_knownPiece := goodIn_ca (goodIn_r _ [7, 8, 9, 10, 11, 12, 13, 14, 15, 16, 17, 18, 19, 20, 21, 22, 23, 24, 25, 26, 27, 28, 29, 30, 31, 32, 33, 34, 35, 164, 165, 166, 167, 168, 169, 170, 171, 172, 173, 174, 175, 176] (by decide +kernel) (by decide +kernel)) (goodIn_sub (fun _ h => List.mem_cons_of_mem _ (List.mem_append_left _ (List.mem_append_right _ h))) (by decide +kernel))
set_option maxRecDepth 20000 in
theorem gX6_limit_X6_knownPiece : GoodIn wsX6_limit (wsV RX6 96 RX6 yX6_knownPiece wsX6_knownPiece) := goodIn_app (goodIn_of _ (by decide +kernel)) ggX6_limit_X6_knownPiece
set_option maxRecDepth 20000 in
theorem ggX6_limit_X6_needWithin : GoodIn wsX6_limit wsX6_needWithin := goodIn_ca (goodIn_r _ [38, 39, 40] (by decide +kernel) (by decide +kernel)) (goodIn_sub (fun _ h => List.mem_cons_of_mem _ (List.mem_append_right _ h)) (by decide +kernel))
set_option maxRecDepth 20000 in
theorem gX6_limit_X6_needWithin : GoodIn wsX6_limit (va_wsS RX6 65 yX6_needWithin wsX6_needWithin) := goodIn_app (goodIn_of _ (by decide +kernel)) ggX6_limit_X6_needWithin
set_option maxRecDepth 20000 in
theorem ggX6_limit_X6_redoTrees : GoodIn wsX6_limit wsX6_redoTrees := goodIn_r _ [44, 45, 46, 47, 48, 49, 50, 51, 52, 53, 54, 55, 56, 57, 58, 59, 60, 61, 62, 63, 64, 65, 66, 67, 68, 69, 70, 71, 72, 73, 74, 75, 76, 77, 78, 79, 80, 81, 82, 14, 15, 16, 17, 18, 83, 20, 21, 22, 23, 24, 25, 26, 27, 28, 29, 30, 31, 32, 33, 34, 35, 84, 85, 86, 87, 88, 89, 90, 91, 92, 93, 94, 95, 96, 97, 98, 99, 100, 101, 102, 103, 104, 105, 106, 107, 108, 109, 110, 111, 112, 113, 114, 115, 116, 117, 118, 119, 120, 121, 122, 123, 124, 125, 126, 127, 128, 129, 130, 131, 132, 133, 134, 135, 136, 137, 138, 139, 140, 141, 142, 143, 144, 145, 146, 147, 148, 149, 150, 151, 152, 164, 165, 166, 167, 168, 177, 178, 179, 180, 181, 182, 183, 184, 185, 186, 187, 169, 170, 171, 172, 173, 153, 154, 155, 156, 157, 158, 159, 160, 161, 162, 163, 174, 175, 176, 188, 189, 190, 191, 192, 193, 194, 195, 196] (by decide +kernel) (by decide +kernel)
set_option maxRecDepth 20000 in
theorem gX6_limit_X6_redoTrees : GoodIn wsX6_limit (wsV RX6 93 RX6 yX6_redoTrees wsX6_redoTrees) := goodIn_app (goodIn_of _ (by decide +kernel)) ggX6_limit_X6_redoTrees
theorem dX6_limit_0 : decode cX6_limit 0 = .ok (.aload_n 0, 1) := by decide +kernel
theorem dX6_limit_1 : decode cX6_limit 1 = .ok (.iload_n 1, 1) := by decide +kernel
theorem dX6_limit_2 : decode cX6_limit 2 = .ok (.invokevirtual 96, 3) := by decide +kernel
theorem dX6_limit_5 : decode cX6_limit 5 = .ok (.astore 4, 2) := by decide +kernel
theorem dX6_limit_7 : decode cX6_limit 7 = .ok (.iload_n 2, 1) := by decide +kernel
theorem dX6_limit_8 : decode cX6_limit 8 = .ok (.iconst 0, 1) := by decide +kernel
theorem dX6_limit_9 : decode cX6_limit 9 = .ok (.sipush 1000, 3) := by decide +kernel
theorem dX6_limit_12 : decode cX6_limit 12 = .ok (.invokestatic 65, 3) := by decide +kernel
theorem dX6_limit_15 : decode cX6_limit 15 = .ok (.iload_n 3, 1) := by decide +kernel
theorem dX6_limit_16 : decode cX6_limit 16 = .ok (.iconst 0, 1) := by decide +kernel
theorem dX6_limit_17 : decode cX6_limit 17 = .ok (.sipush 1000, 3) := by decide +kernel
theorem dX6_limit_20 : decode cX6_limit 20 = .ok (.invokestatic 65, 3) := by decide +kernel
theorem dX6_limit_23 : decode cX6_limit 23 = .ok (.aload 4, 2) := by decide +kernel
theorem dX6_limit_25 : decode cX6_limit 25 = .ok (.iload_n 2, 1) := by decide +kernel
theorem dX6_limit_26 : decode cX6_limit 26 = .ok (.putfield 100, 3) := by decide +kernel
theorem dX6_limit_29 : decode cX6_limit 29 = .ok (.aload 4, 2) := by decide +kernel
theorem dX6_limit_31 : decode cX6_limit 31 = .ok (.iload_n 3, 1) := by decide +kernel
theorem dX6_limit_32 : decode cX6_limit 32 = .ok (.putfield 103, 3) := by decide +kernel
theorem dX6_limit_35 : decode cX6_limit 35 = .ok (.aload_n 0, 1) := by decide +kernel
theorem dX6_limit_36 : decode cX6_limit 36 = .ok (.invokevirtual 93, 3) := by decide +kernel
theorem dX6_limit_39 : decode cX6_limit 39 = .ok (.ireturn, 1) := by decide +kernel
set_option maxRecDepth 20000 in
theorem ggX6_slow_X6_knownPiece : GoodIn wsX6_slow wsX6_knownPiece := goodIn_ca (goodIn_r _ [8, 9, 10, 11, 12, 13, 14, 15, 16, 17, 18, 19, 20, 21, 22, 23, 24, 25, 26, 27, 28, 29, 30, 31, 32, 33, 34, 35, 36, 169, 170, 171, 172, 173, 174, 175, 176, 177, 178, 179, 180, 181] (by decide +kernel) (by decide +kernel)) (goodIn_sub (fun _ h => List.mem_cons_of_mem _ (List.mem_append_left _ (List.mem_append_right _ h))) (by decide +kernel))
set_option maxRecDepth 20000 in
theorem gX6_slow_X6_knownPiece : GoodIn wsX6_slow (wsV RX6 96 RX6 yX6_knownPiece wsX6_knownPiece) := goodIn_app (goodIn_of _ (by decide +kernel)) ggX6_slow_X6_knownPiece
set_option maxRecDepth 20000 in
theorem ggX6_slow_X6_needWithin : GoodIn wsX6_slow wsX6_needWithin := goodIn_ca (goodIn_r _ [39, 40, 41] (by decide +kernel) (by decide +kernel)) (goodIn_sub (fun _ h => List.mem_cons_of_mem _ (List.mem_append_right _ h)) (by decide +kernel))
set_option maxRecDepth 20000 in
theorem gX6_slow_X6_needWithin : GoodIn wsX6_slow (va_wsS RX6 65 yX6_needWithin wsX6_needWithin) := goodIn_app (goodIn_of _ (by decide +kernel)) ggX6_slow_X6_needWithin
set_option maxRecDepth 20000 in
theorem ggX6_slow_X2_addRow : GoodIn wsX6_slow wsX2_addRow := goodIn_r _ [46, 47, 48, 49, 50, 158, 159, 160, 161, 162, 163, 164, 165, 166, 167, 168] (by decide +kernel) (by decide +kernel)
set_option maxRecDepth 20000 in
theorem gX6_slow_X2_addRow : GoodIn wsX6_slow (wsV RX6 111 RX2 yX2_addRow wsX2_addRow) := goodIn_app (goodIn_of _ (by decide +kernel)) ggX6_slow_X2_addRow
set_option maxRecDepth 20000 in
theorem ggX6_slow_X6_redoTrees : GoodIn wsX6_slow wsX6_redoTrees := goodIn_r _ [54, 55, 56, 57, 58, 59, 60, 61, 62, 63, 64, 65, 66, 67, 68, 69, 70, 71, 72, 73, 74, 75, 76, 77, 78, 79, 80, 81, 82, 83, 84, 85, 86, 87, 88, 89, 90, 91, 92, 15, 16, 17, 18, 19, 93, 21, 22, 23, 24, 25, 26, 27, 28, 29, 30, 31, 32, 33, 34, 35, 36, 94, 95, 96, 45, 97, 98, 99, 100, 101, 102, 103, 104, 105, 106, 107, 108, 109, 110, 111, 112, 113, 114, 115, 47, 48, 49, 50, 116, 117, 118, 119, 120, 121, 122, 123, 124, 125, 126, 127, 128, 129, 130, 131, 132, 133, 134, 135, 136, 137, 138, 139, 140, 141, 142, 143, 144, 145, 146, 147, 148, 149, 150, 151, 152, 153, 154, 155, 156, 157, 169, 170, 171, 172, 173, 182, 183, 184, 185, 186, 187, 188, 189, 190, 191, 192, 174, 175, 176, 177, 178, 158, 159, 160, 161, 162, 163, 164, 165, 166, 167, 168, 179, 180, 181, 193, 194, 195, 196, 197, 198, 199, 200, 201] (by decide +kernel) (by decide +kernel)
set_option maxRecDepth 20000 in
theorem gX6_slow_X6_redoTrees : GoodIn wsX6_slow (wsV RX6 93 RX6 yX6_redoTrees wsX6_redoTrees) := goodIn_app (goodIn_of _ (by decide +kernel)) ggX6_slow_X6_redoTrees
theorem dX6_slow_0 : decode cX6_slow 0 = .ok (.aload_n 0, 1) := by decide +kernel
theorem dX6_slow_1 : decode cX6_slow 1 = .ok (.iload_n 1, 1) := by decide +kernel
theorem dX6_slow_2 : decode cX6_slow 2 = .ok (.invokevirtual 96, 3) := by decide +kernel
theorem dX6_slow_5 : decode cX6_slow 5 = .ok (.astore 5, 2) := by decide +kernel
theorem dX6_slow_7 : decode cX6_slow 7 = .ok (.iload_n 2, 1) := by decide +kernel
theorem dX6_slow_8 : decode cX6_slow 8 = .ok (.iconst 0, 1) := by decide +kernel
theorem dX6_slow_9 : decode cX6_slow 9 = .ok (.bipush 23, 2) := by decide +kernel
theorem dX6_slow_11 : decode cX6_slow 11 = .ok (.invokestatic 65, 3) := by decide +kernel
theorem dX6_slow_14 : decode cX6_slow 14 = .ok (.iload_n 3, 1) := by decide +kernel
theorem dX6_slow_15 : decode cX6_slow 15 = .ok (.iload_n 2, 1) := by decide +kernel
theorem dX6_slow_16 : decode cX6_slow 16 = .ok (.bipush 23, 2) := by decide +kernel
theorem dX6_slow_18 : decode cX6_slow 18 = .ok (.invokestatic 65, 3) := by decide +kernel
theorem dX6_slow_21 : decode cX6_slow 21 = .ok (.iload 4, 2) := by decide +kernel
theorem dX6_slow_23 : decode cX6_slow 23 = .ok (.iconst 1, 1) := by decide +kernel
theorem dX6_slow_24 : decode cX6_slow 24 = .ok (.bipush 100, 2) := by decide +kernel
theorem dX6_slow_26 : decode cX6_slow 26 = .ok (.invokestatic 65, 3) := by decide +kernel
theorem dX6_slow_29 : decode cX6_slow 29 = .ok (.aload 5, 2) := by decide +kernel
theorem dX6_slow_31 : decode cX6_slow 31 = .ok (.getfield 106, 3) := by decide +kernel
theorem dX6_slow_34 : decode cX6_slow 34 = .ok (.iconst 3, 1) := by decide +kernel
theorem dX6_slow_35 : decode cX6_slow 35 = .ok (.if_icmp .lt 13, 3) := by decide +kernel
theorem dX6_slow_38 : decode cX6_slow 38 = .ok (.new 79, 3) := by decide +kernel
theorem dX6_slow_41 : decode cX6_slow 41 = .ok (.dup, 1) := by decide +kernel
theorem dX6_slow_42 : decode cX6_slow 42 = .ok (.ldc 109, 2) := by decide +kernel
theorem dX6_slow_44 : decode cX6_slow 44 = .ok (.invokespecial 83, 3) := by decide +kernel
theorem dX6_slow_47 : decode cX6_slow 47 = .ok (.athrow, 1) := by decide +kernel
theorem dX6_slow_48 : decode cX6_slow 48 = .ok (.aload 5, 2) := by decide +kernel
theorem dX6_slow_50 : decode cX6_slow 50 = .ok (.iload_n 2, 1) := by decide +kernel
theorem dX6_slow_51 : decode cX6_slow 51 = .ok (.iload_n 3, 1) := by decide +kernel
theorem dX6_slow_52 : decode cX6_slow 52 = .ok (.iload 4, 2) := by decide +kernel
theorem dX6_slow_54 : decode cX6_slow 54 = .ok (.invokevirtual 111, 3) := by decide +kernel
theorem dX6_slow_57 : decode cX6_slow 57 = .ok (.aload_n 0, 1) := by decide +kernel
theorem dX6_slow_58 : decode cX6_slow 58 = .ok (.invokevirtual 93, 3) := by decide +kernel
theorem dX6_slow_61 : decode cX6_slow 61 = .ok (.ireturn, 1) := by decide +kernel
set_option maxRecDepth 20000 in
theorem ggX6_close_X6_knownPiece : GoodIn wsX6_close wsX6_knownPiece := goodIn_ca (goodIn_r _ [8, 9, 10, 11, 12, 13, 14, 15, 16, 17, 18, 19, 20, 21, 22, 23, 24, 25, 26, 27, 28, 29, 30, 31, 32, 33, 34, 35, 36, 160, 161, 162, 163, 164, 165, 166, 167, 168, 169, 170, 171, 172] (by decide +kernel) (by decide +kernel)) (goodIn_sub (fun _ h => List.mem_cons_of_mem _ (List.mem_append_right _ h)) (by decide +kernel))
set_option maxRecDepth 20000 in
theorem gX6_close_X6_knownPiece : GoodIn wsX6_close (wsV RX6 96 RX6 yX6_knownPiece wsX6_knownPiece) := goodIn_app (goodIn_of _ (by decide +kernel)) ggX6_close_X6_knownPiece
set_option maxRecDepth 20000 in
theorem ggX6_close_X6_redoTrees : GoodIn wsX6_close wsX6_redoTrees := goodIn_r _ [40, 41, 42, 43, 44, 45, 46, 47, 48, 49, 50, 51, 52, 53, 54, 55, 56, 57, 58, 59, 60, 61, 62, 63, 64, 65, 66, 67, 68, 69, 70, 71, 72, 73, 74, 75, 76, 77, 78, 15, 16, 17, 18, 19, 79, 21, 22, 23, 24, 25, 26, 27, 28, 29, 30, 31, 32, 33, 34, 35, 36, 80, 81, 82, 83, 84, 85, 86, 87, 88, 89, 90, 91, 92, 93, 94, 95, 96, 97, 98, 99, 100, 101, 102, 103, 104, 105, 106, 107, 108, 109, 110, 111, 112, 113, 114, 115, 116, 117, 118, 119, 120, 121, 122, 123, 124, 125, 126, 127, 128, 129, 130, 131, 132, 133, 134, 135, 136, 137, 138, 139, 140, 141, 142, 143, 144, 145, 146, 147, 148, 160, 161, 162, 163, 164, 173, 174, 175, 176, 177, 178, 179, 180, 181, 182, 183, 165, 166, 167, 168, 169, 149, 150, 151, 152, 153, 154, 155, 156, 157, 158, 159, 170, 171, 172, 184, 185, 186, 187, 188, 189, 190, 191, 192] (by decide +kernel) (by decide +kernel)
set_option maxRecDepth 20000 in
theorem gX6_close_X6_redoTrees : GoodIn wsX6_close (wsV RX6 93 RX6 yX6_redoTrees wsX6_redoTrees) := goodIn_app (goodIn_of _ (by decide +kernel)) ggX6_close_X6_redoTrees
theorem dX6_close_0 : decode cX6_close 0 = .ok (.aload_n 0, 1) := by decide +kernel
theorem dX6_close_1 : decode cX6_close 1 = .ok (.iload_n 1, 1) := by decide +kernel
theorem dX6_close_2 : decode cX6_close 2 = .ok (.invokevirtual 96, 3) := by decide +kernel
theorem dX6_close_5 : decode cX6_close 5 = .ok (.astore_n 3, 1) := by decide +kernel
theorem dX6_close_6 : decode cX6_close 6 = .ok (.aload_n 3, 1) := by decide +kernel
theorem dX6_close_7 : decode cX6_close 7 = .ok (.getfield 114, 3) := by decide +kernel
theorem dX6_close_10 : decode cX6_close 10 = .ok (.iload_n 2, 1) := by decide +kernel
theorem dX6_close_11 : decode cX6_close 11 = .ok (.if_icmp .ne 13, 3) := by decide +kernel
theorem dX6_close_14 : decode cX6_close 14 = .ok (.new 118, 3) := by decide +kernel
theorem dX6_close_17 : decode cX6_close 17 = .ok (.dup, 1) := by decide +kernel
theorem dX6_close_18 : decode cX6_close 18 = .ok (.ldc 120, 2) := by decide +kernel
theorem dX6_close_20 : decode cX6_close 20 = .ok (.invokespecial 122, 3) := by decide +kernel
theorem dX6_close_23 : decode cX6_close 23 = .ok (.athrow, 1) := by decide +kernel
theorem dX6_close_24 : decode cX6_close 24 = .ok (.aload_n 3, 1) := by decide +kernel
theorem dX6_close_25 : decode cX6_close 25 = .ok (.iload_n 2, 1) := by decide +kernel
theorem dX6_close_26 : decode cX6_close 26 = .ok (.putfield 114, 3) := by decide +kernel
theorem dX6_close_29 : decode cX6_close 29 = .ok (.aload_n 0, 1) := by decide +kernel
theorem dX6_close_30 : decode cX6_close 30 = .ok (.invokevirtual 93, 3) := by decide +kernel
theorem dX6_close_33 : decode cX6_close 33 = .ok (.ireturn, 1) := by decide +kernel
set_option maxRecDepth 20000 in
theorem ggX6_speed_X6_knownPiece : GoodIn wsX6_speed wsX6_knownPiece := goodIn_ca (goodIn_r _ [6, 7, 8, 9, 10, 11, 12, 13, 14, 15, 16, 17, 18, 19, 20, 21, 22, 23, 24, 25, 26, 27, 28, 29, 30, 31, 32, 33, 34, 163, 164, 165, 166, 167, 168, 169, 170, 171, 172, 173, 174, 175] (by decide +kernel) (by decide +kernel)) (goodIn_sub (fun _ h => List.mem_cons_of_mem _ (List.mem_append_left _ (List.mem_append_right _ h))) (by decide +kernel))
set_option maxRecDepth 20000 in
theorem gX6_speed_X6_knownPiece : GoodIn wsX6_speed (wsV RX6 96 RX6 yX6_knownPiece wsX6_knownPiece) := goodIn_app (goodIn_of _ (by decide +kernel)) ggX6_speed_X6_knownPiece
set_option maxRecDepth 20000 in
theorem ggX6_speed_X6_needWithin : GoodIn wsX6_speed wsX6_needWithin := goodIn_ca (goodIn_r _ [37, 38, 39] (by decide +kernel) (by decide +kernel)) (goodIn_sub (fun _ h => List.mem_cons_of_mem _ (List.mem_append_right _ h)) (by decide +kernel))
set_option maxRecDepth 20000 in
theorem gX6_speed_X6_needWithin : GoodIn wsX6_speed (va_wsS RX6 65 yX6_needWithin wsX6_needWithin) := goodIn_app (goodIn_of _ (by decide +kernel)) ggX6_speed_X6_needWithin
set_option maxRecDepth 20000 in
theorem ggX6_speed_X6_redoTrees : GoodIn wsX6_speed wsX6_redoTrees := goodIn_r _ [43, 44, 45, 46, 47, 48, 49, 50, 51, 52, 53, 54, 55, 56, 57, 58, 59, 60, 61, 62, 63, 64, 65, 66, 67, 68, 69, 70, 71, 72, 73, 74, 75, 76, 77, 78, 79, 80, 81, 13, 14, 15, 16, 17, 82, 19, 20, 21, 22, 23, 24, 25, 26, 27, 28, 29, 30, 31, 32, 33, 34, 83, 84, 85, 86, 87, 88, 89, 90, 91, 92, 93, 94, 95, 96, 97, 98, 99, 100, 101, 102, 103, 104, 105, 106, 107, 108, 109, 110, 111, 112, 113, 114, 115, 116, 117, 118, 119, 120, 121, 122, 123, 124, 125, 126, 127, 128, 129, 130, 131, 132, 133, 134, 135, 136, 137, 138, 139, 140, 141, 142, 143, 144, 145, 146, 147, 148, 149, 150, 151, 163, 164, 165, 166, 167, 176, 177, 178, 179, 180, 181, 182, 183, 184, 185, 186, 168, 169, 170, 171, 172, 152, 153, 154, 155, 156, 157, 158, 159, 160, 161, 162, 173, 174, 175, 187, 188, 189, 190, 191, 192, 193, 194, 195] (by decide +kernel) (by decide +kernel)
set_option maxRecDepth 20000 in
theorem gX6_speed_X6_redoTrees : GoodIn wsX6_speed (wsV RX6 93 RX6 yX6_redoTrees wsX6_redoTrees) := goodIn_app (goodIn_of _ (by decide +kernel)) ggX6_speed_X6_redoTrees
theorem dX6_speed_0 : decode cX6_speed 0 = .ok (.aload_n 0, 1) := by decide +kernel
theorem dX6_speed_1 : decode cX6_speed 1 = .ok (.iload_n 1, 1) := by decide +kernel
theorem dX6_speed_2 : decode cX6_speed 2 = .ok (.invokevirtual 96, 3) := by decide +kernel
theorem dX6_speed_5 : decode cX6_speed 5 = .ok (.astore_n 3, 1) := by decide +kernel
theorem dX6_speed_6 : decode cX6_speed 6 = .ok (.iload_n 2, 1) := by decide +kernel
theorem dX6_speed_7 : decode cX6_speed 7 = .ok (.iconst 0, 1) := by decide +kernel
theorem dX6_speed_8 : decode cX6_speed 8 = .ok (.sipush 200, 3) := by decide +kernel
theorem dX6_speed_11 : decode cX6_speed 11 = .ok (.invokestatic 65, 3) := by decide +kernel
theorem dX6_speed_14 : decode cX6_speed 14 = .ok (.aload_n 3, 1) := by decide +kernel
theorem dX6_speed_15 : decode cX6_speed 15 = .ok (.iload_n 2, 1) := by decide +kernel
theorem dX6_speed_16 : decode cX6_speed 16 = .ok (.putfield 123, 3) := by decide +kernel
theorem dX6_speed_19 : decode cX6_speed 19 = .ok (.aload_n 0, 1) := by decide +kernel
theorem dX6_speed_20 : decode cX6_speed 20 = .ok (.invokevirtual 93, 3) := by decide +kernel
theorem dX6_speed_23 : decode cX6_speed 23 = .ok (.ireturn, 1) := by decide +kernel
set_option maxRecDepth 20000 in
theorem ggX6_unit_X6_needNode : GoodIn wsX6_unit wsX6_needNode := goodIn_ca (goodIn_r _ [12, 13, 14, 3, 15, 92, 93, 94, 95, 96, 97, 98, 99, 100, 101] (by decide +kernel) (by decide +kernel)) (goodIn_sub (fun _ h => List.mem_cons_of_mem _ (List.mem_append_left _ (List.mem_append_right _ h))) (by decide +kernel))
set_option maxRecDepth 20000 in
theorem gX6_unit_X6_needNode : GoodIn wsX6_unit (wsV RX6 59 RX6 yX6_needNode wsX6_needNode) := goodIn_app (goodIn_of _ (by decide +kernel)) ggX6_unit_X6_needNode
set_option maxRecDepth 20000 in
theorem ggX6_unit_X6_needWithin : GoodIn wsX6_unit wsX6_needWithin := goodIn_ca (goodIn_r _ [18, 19, 20] (by decide +kernel) (by decide +kernel)) (goodIn_sub (fun _ h => List.mem_cons_of_mem _ (List.mem_append_right _ h)) (by decide +kernel))
set_option maxRecDepth 20000 in
theorem gX6_unit_X6_needWithin : GoodIn wsX6_unit (va_wsS RX6 65 yX6_needWithin wsX6_needWithin) := goodIn_app (goodIn_of _ (by decide +kernel)) ggX6_unit_X6_needWithin
set_option maxRecDepth 20000 in
theorem ggX6_unit_Jx4a65c_size_8abf5 : GoodIn wsX6_unit wsJx4a65c_size_8abf5 := goodIn_r _ [25, 26, 107, 108, 109] (by decide +kernel) (by decide +kernel)
set_option maxRecDepth 20000 in
theorem gX6_unit_Jx4a65c_size_8abf5 : GoodIn wsX6_unit (wsV RX6 73 RJx4a65c yJx4a65c_size_8abf5 wsJx4a65c_size_8abf5) := goodIn_app (goodIn_of _ (by decide +kernel)) ggX6_unit_Jx4a65c_size_8abf5
set_option maxRecDepth 20000 in
theorem ggX6_unit_X5_init : GoodIn wsX6_unit wsX5_init := goodIn_r _ [29, 30, 31, 32, 33, 34, 35, 36, 37, 102, 103, 104, 105, 106] (by decide +kernel) (by decide +kernel)
set_option maxRecDepth 20000 in
theorem gX6_unit_X5_init : GoodIn wsX6_unit (wsX5_init) := ggX6_unit_X5_init
set_option maxRecDepth 20000 in
theorem ggX6_unit_Jx4a65c_add_9ea2d : GoodIn wsX6_unit wsJx4a65c_add_9ea2d := goodIn_r _ [41, 42, 43, 44, 26, 45, 46, 47, 24, 48, 49, 50, 51, 52, 53, 54, 55, 56, 57, 58, 59, 60, 61, 62, 63, 64, 65, 66, 67, 68, 69, 70, 71, 72, 73, 74, 75, 76, 77, 78, 79, 80, 81, 82, 83, 84, 85, 86, 87, 88, 89, 90, 91, 107, 108, 109] (by decide +kernel) (by decide +kernel)
set_option maxRecDepth 20000 in
theorem gX6_unit_Jx4a65c_add_9ea2d : GoodIn wsX6_unit (wsV RX6 136 RJx4a65c yJx4a65c_add_9ea2d wsJx4a65c_add_9ea2d) := goodIn_app (goodIn_of _ (by decide +kernel)) ggX6_unit_Jx4a65c_add_9ea2d
theorem dX6_unit_0 : decode cX6_unit 0 = .ok (.aload_n 0, 1) := by decide +kernel
theorem dX6_unit_1 : decode cX6_unit 1 = .ok (.iload_n 1, 1) := by decide +kernel
theorem dX6_unit_2 : decode cX6_unit 2 = .ok (.invokevirtual 59, 3) := by decide +kernel
theorem dX6_unit_5 : decode cX6_unit 5 = .ok (.iload_n 2, 1) := by decide +kernel
theorem dX6_unit_6 : decode cX6_unit 6 = .ok (.iconst 0, 1) := by decide +kernel
theorem dX6_unit_7 : decode cX6_unit 7 = .ok (.sipush 1000, 3) := by decide +kernel
theorem dX6_unit_10 : decode cX6_unit 10 = .ok (.invokestatic 65, 3) := by decide +kernel
theorem dX6_unit_13 : decode cX6_unit 13 = .ok (.iload_n 3, 1) := by decide +kernel
theorem dX6_unit_14 : decode cX6_unit 14 = .ok (.iconst 0, 1) := by decide +kernel
theorem dX6_unit_15 : decode cX6_unit 15 = .ok (.sipush 1000, 3) := by decide +kernel
theorem dX6_unit_18 : decode cX6_unit 18 = .ok (.invokestatic 65, 3) := by decide +kernel
theorem dX6_unit_21 : decode cX6_unit 21 = .ok (.iload 4, 2) := by decide +kernel
theorem dX6_unit_23 : decode cX6_unit 23 = .ok (.iconst 1, 1) := by decide +kernel
theorem dX6_unit_24 : decode cX6_unit 24 = .ok (.bipush 20, 2) := by decide +kernel
theorem dX6_unit_26 : decode cX6_unit 26 = .ok (.invokestatic 65, 3) := by decide +kernel
theorem dX6_unit_29 : decode cX6_unit 29 = .ok (.iload 5, 2) := by decide +kernel
theorem dX6_unit_31 : decode cX6_unit 31 = .ok (.iconst 1, 1) := by decide +kernel
theorem dX6_unit_32 : decode cX6_unit 32 = .ok (.bipush 20, 2) := by decide +kernel
theorem dX6_unit_34 : decode cX6_unit 34 = .ok (.invokestatic 65, 3) := by decide +kernel
theorem dX6_unit_37 : decode cX6_unit 37 = .ok (.aload_n 0, 1) := by decide +kernel
theorem dX6_unit_38 : decode cX6_unit 38 = .ok (.getfield 10, 3) := by decide +kernel
theorem dX6_unit_41 : decode cX6_unit 41 = .ok (.getfield 126, 3) := by decide +kernel
theorem dX6_unit_44 : decode cX6_unit 44 = .ok (.invokevirtual 73, 3) := by decide +kernel
theorem dX6_unit_47 : decode cX6_unit 47 = .ok (.bipush 12, 2) := by decide +kernel
theorem dX6_unit_49 : decode cX6_unit 49 = .ok (.if_icmp .lt 13, 3) := by decide +kernel
theorem dX6_unit_52 : decode cX6_unit 52 = .ok (.new 79, 3) := by decide +kernel
theorem dX6_unit_55 : decode cX6_unit 55 = .ok (.dup, 1) := by decide +kernel
theorem dX6_unit_56 : decode cX6_unit 56 = .ok (.ldc 129, 2) := by decide +kernel
theorem dX6_unit_58 : decode cX6_unit 58 = .ok (.invokespecial 83, 3) := by decide +kernel
theorem dX6_unit_61 : decode cX6_unit 61 = .ok (.athrow, 1) := by decide +kernel
theorem dX6_unit_62 : decode cX6_unit 62 = .ok (.aload_n 0, 1) := by decide +kernel
theorem dX6_unit_63 : decode cX6_unit 63 = .ok (.getfield 10, 3) := by decide +kernel
theorem dX6_unit_66 : decode cX6_unit 66 = .ok (.getfield 126, 3) := by decide +kernel
theorem dX6_unit_69 : decode cX6_unit 69 = .ok (.new 131, 3) := by decide +kernel
theorem dX6_unit_72 : decode cX6_unit 72 = .ok (.dup, 1) := by decide +kernel
theorem dX6_unit_73 : decode cX6_unit 73 = .ok (.iload_n 1, 1) := by decide +kernel
theorem dX6_unit_74 : decode cX6_unit 74 = .ok (.iload_n 2, 1) := by decide +kernel
theorem dX6_unit_75 : decode cX6_unit 75 = .ok (.iload_n 3, 1) := by decide +kernel
theorem dX6_unit_76 : decode cX6_unit 76 = .ok (.iload 4, 2) := by decide +kernel
theorem dX6_unit_78 : decode cX6_unit 78 = .ok (.iload 5, 2) := by decide +kernel
theorem dX6_unit_80 : decode cX6_unit 80 = .ok (.invokespecial 133, 3) := by decide +kernel
theorem dX6_unit_83 : decode cX6_unit 83 = .ok (.invokevirtual 136, 3) := by decide +kernel
theorem dX6_unit_86 : decode cX6_unit 86 = .ok (.pop, 1) := by decide +kernel
theorem dX6_unit_87 : decode cX6_unit 87 = .ok (.aload_n 0, 1) := by decide +kernel
theorem dX6_unit_88 : decode cX6_unit 88 = .ok (.getfield 10, 3) := by decide +kernel
theorem dX6_unit_91 : decode cX6_unit 91 = .ok (.getfield 126, 3) := by decide +kernel
theorem dX6_unit_94 : decode cX6_unit 94 = .ok (.invokevirtual 73, 3) := by decide +kernel
theorem dX6_unit_97 : decode cX6_unit 97 = .ok (.iconst 1, 1) := by decide +kernel
theorem dX6_unit_98 : decode cX6_unit 98 = .ok (.isub, 1) := by decide +kernel
theorem dX6_unit_99 : decode cX6_unit 99 = .ok (.ireturn, 1) := by decide +kernel
set_option maxRecDepth 20000 in
theorem ggX6_stand_X6_knownUnit : GoodIn wsX6_stand wsX6_knownUnit := goodIn_ca (goodIn_r _ [6, 7, 8, 9, 10, 11, 12, 13, 14, 15, 16, 17, 18, 19, 20, 21, 22, 23, 24, 25, 26, 27, 28, 29, 30, 31, 32, 33, 34, 45, 46, 47, 48, 49, 50, 51, 52, 53, 54, 55, 56, 57] (by decide +kernel) (by decide +kernel)) (goodIn_sub (fun _ h => List.mem_cons_of_mem _ (List.mem_append_right _ h)) (by decide +kernel))
set_option maxRecDepth 20000 in
theorem gX6_stand_X6_knownUnit : GoodIn wsX6_stand (wsV RX6 140 RX6 yX6_knownUnit wsX6_knownUnit) := goodIn_app (goodIn_of _ (by decide +kernel)) ggX6_stand_X6_knownUnit
set_option maxRecDepth 20000 in
theorem ggX6_stand_X6_needNode : GoodIn wsX6_stand wsX6_needNode := goodIn_ca (goodIn_r _ [38, 7, 8, 9, 39, 45, 46, 47, 48, 49, 50, 51, 52, 53, 54] (by decide +kernel) (by decide +kernel)) (goodIn_sub (fun _ h => List.mem_cons_of_mem _ (List.mem_append_right _ h)) (by decide +kernel))
set_option maxRecDepth 20000 in
theorem gX6_stand_X6_needNode : GoodIn wsX6_stand (wsV RX6 59 RX6 yX6_needNode wsX6_needNode) := goodIn_app (goodIn_of _ (by decide +kernel)) ggX6_stand_X6_needNode
theorem dX6_stand_0 : decode cX6_stand 0 = .ok (.aload_n 0, 1) := by decide +kernel
theorem dX6_stand_1 : decode cX6_stand 1 = .ok (.iload_n 1, 1) := by decide +kernel
theorem dX6_stand_2 : decode cX6_stand 2 = .ok (.invokevirtual 140, 3) := by decide +kernel
theorem dX6_stand_5 : decode cX6_stand 5 = .ok (.astore_n 3, 1) := by decide +kernel
theorem dX6_stand_6 : decode cX6_stand 6 = .ok (.aload_n 0, 1) := by decide +kernel
theorem dX6_stand_7 : decode cX6_stand 7 = .ok (.iload_n 2, 1) := by decide +kernel
theorem dX6_stand_8 : decode cX6_stand 8 = .ok (.invokevirtual 59, 3) := by decide +kernel
theorem dX6_stand_11 : decode cX6_stand 11 = .ok (.aload_n 3, 1) := by decide +kernel
theorem dX6_stand_12 : decode cX6_stand 12 = .ok (.iload_n 2, 1) := by decide +kernel
theorem dX6_stand_13 : decode cX6_stand 13 = .ok (.putfield 144, 3) := by decide +kernel
theorem dX6_stand_16 : decode cX6_stand 16 = .ok (.return_, 1) := by decide +kernel
set_option maxRecDepth 20000 in
theorem ggX6_seconds_X6_knownUnit : GoodIn wsX6_seconds wsX6_knownUnit := goodIn_ca (goodIn_r _ [9, 10, 11, 12, 13, 14, 15, 16, 17, 18, 19, 20, 21, 22, 23, 24, 25, 26, 27, 28, 29, 30, 31, 32, 33, 34, 35, 36, 37, 82, 83, 84, 85, 86, 87, 88, 89, 90, 91, 92, 93, 94] (by decide +kernel) (by decide +kernel)) (goodIn_sub (fun _ h => List.mem_cons_of_mem _ (List.mem_append_left _ (List.mem_append_right _ h))) (by decide +kernel))
set_option maxRecDepth 20000 in
theorem gX6_seconds_X6_knownUnit : GoodIn wsX6_seconds (wsV RX6 140 RX6 yX6_knownUnit wsX6_knownUnit) := goodIn_app (goodIn_of _ (by decide +kernel)) ggX6_seconds_X6_knownUnit
set_option maxRecDepth 20000 in
theorem ggX6_seconds_X6_knownPiece : GoodIn wsX6_seconds wsX6_knownPiece := goodIn_ca (goodIn_r _ [41, 10, 11, 12, 42, 43, 15, 16, 17, 18, 19, 20, 21, 22, 23, 24, 25, 26, 27, 28, 29, 30, 31, 32, 33, 34, 35, 36, 37, 82, 83, 84, 85, 86, 87, 88, 89, 90, 91, 92, 93, 94] (by decide +kernel) (by decide +kernel)) (goodIn_sub (fun _ h => List.mem_cons_of_mem _ (List.mem_append_left _ (List.mem_append_right _ h))) (by decide +kernel))
set_option maxRecDepth 20000 in
theorem gX6_seconds_X6_knownPiece : GoodIn wsX6_seconds (wsV RX6 96 RX6 yX6_knownPiece wsX6_knownPiece) := goodIn_app (goodIn_of _ (by decide +kernel)) ggX6_seconds_X6_knownPiece
set_option maxRecDepth 20000 in
theorem ggX6_seconds_X6_needTime : GoodIn wsX6_seconds wsX6_needTime := goodIn_ca (goodIn_r _ [46, 47, 48, 49, 8, 50, 51, 52] (by decide +kernel) (by decide +kernel)) (goodIn_sub (fun _ h => List.mem_cons_of_mem _ (List.mem_append_right _ h)) (by decide +kernel))
set_option maxRecDepth 20000 in
theorem gX6_seconds_X6_needTime : GoodIn wsX6_seconds (va_wsS RX6 147 yX6_needTime wsX6_needTime) := goodIn_app (goodIn_of _ (by decide +kernel)) ggX6_seconds_X6_needTime
set_option maxRecDepth 20000 in
theorem ggX6_seconds_X2_secondsFor : GoodIn wsX6_seconds wsX2_secondsFor := goodIn_r _ [57, 58, 59, 60, 61, 62, 63, 64, 65, 56, 66, 67, 68, 69, 70, 71, 72, 73, 74, 75, 76, 77, 78, 79, 80, 81, 95, 96, 97, 98, 99] (by decide +kernel) (by decide +kernel)
set_option maxRecDepth 20000 in
theorem gX6_seconds_X2_secondsFor : GoodIn wsX6_seconds (wsV RX6 158 RX2 yX2_secondsFor wsX2_secondsFor) := goodIn_app (goodIn_of _ (by decide +kernel)) ggX6_seconds_X2_secondsFor
theorem dX6_seconds_0 : decode cX6_seconds 0 = .ok (.aload_n 0, 1) := by decide +kernel
theorem dX6_seconds_1 : decode cX6_seconds 1 = .ok (.iload_n 1, 1) := by decide +kernel
theorem dX6_seconds_2 : decode cX6_seconds 2 = .ok (.invokevirtual 140, 3) := by decide +kernel
theorem dX6_seconds_5 : decode cX6_seconds 5 = .ok (.astore 4, 2) := by decide +kernel
theorem dX6_seconds_7 : decode cX6_seconds 7 = .ok (.aload_n 0, 1) := by decide +kernel
theorem dX6_seconds_8 : decode cX6_seconds 8 = .ok (.iload_n 2, 1) := by decide +kernel
theorem dX6_seconds_9 : decode cX6_seconds 9 = .ok (.invokevirtual 96, 3) := by decide +kernel
theorem dX6_seconds_12 : decode cX6_seconds 12 = .ok (.astore 5, 2) := by decide +kernel
theorem dX6_seconds_14 : decode cX6_seconds 14 = .ok (.iload_n 3, 1) := by decide +kernel
theorem dX6_seconds_15 : decode cX6_seconds 15 = .ok (.invokestatic 147, 3) := by decide +kernel
theorem dX6_seconds_18 : decode cX6_seconds 18 = .ok (.aload 5, 2) := by decide +kernel
theorem dX6_seconds_20 : decode cX6_seconds 20 = .ok (.getfield 123, 3) := by decide +kernel
theorem dX6_seconds_23 : decode cX6_seconds 23 = .ok (.ifCond .ne 13, 3) := by decide +kernel
theorem dX6_seconds_26 : decode cX6_seconds 26 = .ok (.new 150, 3) := by decide +kernel
theorem dX6_seconds_29 : decode cX6_seconds 29 = .ok (.dup, 1) := by decide +kernel
theorem dX6_seconds_30 : decode cX6_seconds 30 = .ok (.ldc 152, 2) := by decide +kernel
theorem dX6_seconds_32 : decode cX6_seconds 32 = .ok (.invokespecial 154, 3) := by decide +kernel
theorem dX6_seconds_35 : decode cX6_seconds 35 = .ok (.athrow, 1) := by decide +kernel
theorem dX6_seconds_36 : decode cX6_seconds 36 = .ok (.aload 5, 2) := by decide +kernel
theorem dX6_seconds_38 : decode cX6_seconds 38 = .ok (.aload 4, 2) := by decide +kernel
theorem dX6_seconds_40 : decode cX6_seconds 40 = .ok (.aload 5, 2) := by decide +kernel
theorem dX6_seconds_42 : decode cX6_seconds 42 = .ok (.getfield 155, 3) := by decide +kernel
theorem dX6_seconds_45 : decode cX6_seconds 45 = .ok (.iload_n 3, 1) := by decide +kernel
theorem dX6_seconds_46 : decode cX6_seconds 46 = .ok (.invokevirtual 158, 3) := by decide +kernel
theorem dX6_seconds_49 : decode cX6_seconds 49 = .ok (.lreturn, 1) := by decide +kernel
set_option maxRecDepth 20000 in
theorem ggX6_way_X6_knownUnit : GoodIn wsX6_way wsX6_knownUnit := goodIn_ca (goodIn_r _ [6, 7, 8, 9, 10, 11, 12, 13, 14, 15, 16, 17, 18, 19, 20, 21, 22, 23, 24, 25, 26, 27, 28, 29, 30, 31, 32, 33, 34, 162, 163, 164, 165, 166, 167, 168, 169, 170, 171, 172, 173, 174] (by decide +kernel) (by decide +kernel)) (goodIn_sub (fun _ h => List.mem_cons_of_mem _ (List.mem_append_left _ (List.mem_append_right _ h))) (by decide +kernel))
set_option maxRecDepth 20000 in
theorem gX6_way_X6_knownUnit : GoodIn wsX6_way (wsV RX6 140 RX6 yX6_knownUnit wsX6_knownUnit) := goodIn_app (goodIn_of _ (by decide +kernel)) ggX6_way_X6_knownUnit
set_option maxRecDepth 20000 in
theorem ggX6_way_X6_needNode : GoodIn wsX6_way wsX6_needNode := goodIn_ca (goodIn_r _ [38, 7, 8, 9, 39, 162, 163, 164, 165, 166, 167, 168, 169, 170, 171] (by decide +kernel) (by decide +kernel)) (goodIn_sub (fun _ h => List.mem_cons_of_mem _ (List.mem_append_left _ (List.mem_append_right _ h))) (by decide +kernel))
set_option maxRecDepth 20000 in
theorem gX6_way_X6_needNode : GoodIn wsX6_way (wsV RX6 59 RX6 yX6_needNode wsX6_needNode) := goodIn_app (goodIn_of _ (by decide +kernel)) ggX6_way_X6_needNode
set_option maxRecDepth 20000 in
theorem ggX6_way_X6_needTime : GoodIn wsX6_way wsX6_needTime := goodIn_ca (goodIn_r _ [42, 43, 44, 45, 5, 46, 47, 48] (by decide +kernel) (by decide +kernel)) (goodIn_sub (fun _ h => List.mem_cons_of_mem _ (List.mem_append_right _ h)) (by decide +kernel))
set_option maxRecDepth 20000 in
theorem gX6_way_X6_needTime : GoodIn wsX6_way (va_wsS RX6 147 yX6_needTime wsX6_needTime) := goodIn_app (goodIn_of _ (by decide +kernel)) ggX6_way_X6_needTime
set_option maxRecDepth 20000 in
theorem ggX6_way_X3_spread : GoodIn wsX6_way wsX3_spread := goodIn_r _ [53, 54, 55, 56, 57, 58, 59, 60, 61, 62, 63, 64, 65, 66, 52, 67, 68, 69, 70, 71, 72, 73, 13, 14, 15, 16, 17, 74, 19, 20, 21, 22, 23, 24, 25, 26, 27, 28, 29, 30, 31, 32, 33, 34, 75, 76, 77, 78, 79, 80, 81, 82, 83, 84, 85, 86, 87, 88, 89, 90, 91, 92, 93, 94, 95, 96, 97, 98, 99, 100, 101, 102, 103, 104, 105, 106, 107, 108, 109, 110, 111, 112, 113, 114, 115, 116, 117, 118, 119, 120, 121, 122, 123, 124, 125, 126, 127, 128, 129, 130, 131, 132, 133, 134, 135, 175, 176, 177, 178, 179, 180, 181, 167, 168, 169, 170, 171, 182, 183, 184, 185, 186, 187, 188, 189, 190, 191, 192, 172, 173, 174, 193, 194, 195, 196, 197, 198, 199, 200, 201] (by decide +kernel) (by decide +kernel)
set_option maxRecDepth 20000 in
theorem gX6_way_X3_spread : GoodIn wsX6_way (wsV RX6 162 RX3 yX3_spread wsX3_spread) := goodIn_app (goodIn_of _ (by decide +kernel)) ggX6_way_X3_spread
set_option maxRecDepth 20000 in
theorem ggX6_way_X6_noteSteps : GoodIn wsX6_way wsX6_noteSteps := goodIn_r _ [139, 140, 1, 141, 9, 142, 143, 144, 145, 146, 52, 147, 57, 128, 68, 129, 73, 13, 14, 15, 16, 17, 148, 149, 150, 151, 69, 72, 70, 74, 19, 20, 21, 22, 23, 24, 25, 26, 27, 28, 29, 30, 31, 32, 33, 34, 130, 131, 132, 78, 133, 134, 135, 152, 153, 154, 155, 156, 157, 158, 159, 55, 106, 18, 160, 162, 163, 164, 165, 166, 167, 168, 169, 170, 171, 175, 176, 177, 178, 179, 180, 181, 172, 173, 174, 182, 183, 184, 185, 186, 187, 188, 189, 190, 191, 192] (by decide +kernel) (by decide +kernel)
set_option maxRecDepth 20000 in
theorem gX6_way_X6_noteSteps : GoodIn wsX6_way (wsV RX6 166 RX6 yX6_noteSteps wsX6_noteSteps) := goodIn_app (goodIn_of _ (by decide +kernel)) ggX6_way_X6_noteSteps
set_option maxRecDepth 20000 in
theorem ggX6_way_X3_leastTo : GoodIn wsX6_way wsX3_leastTo := goodIn_r _ [155, 156, 157, 158, 52, 159, 55, 106, 72, 175, 176, 177, 178, 179, 180, 181] (by decide +kernel) (by decide +kernel)
set_option maxRecDepth 20000 in
theorem gX6_way_X3_leastTo : GoodIn wsX6_way (wsV RX6 170 RX3 yX3_leastTo wsX3_leastTo) := goodIn_app (goodIn_of _ (by decide +kernel)) ggX6_way_X3_leastTo
theorem dX6_way_0 : decode cX6_way 0 = .ok (.aload_n 0, 1) := by decide +kernel
theorem dX6_way_1 : decode cX6_way 1 = .ok (.iload_n 1, 1) := by decide +kernel
theorem dX6_way_2 : decode cX6_way 2 = .ok (.invokevirtual 140, 3) := by decide +kernel
theorem dX6_way_5 : decode cX6_way 5 = .ok (.astore 5, 2) := by decide +kernel
theorem dX6_way_7 : decode cX6_way 7 = .ok (.aload_n 0, 1) := by decide +kernel
theorem dX6_way_8 : decode cX6_way 8 = .ok (.iload_n 2, 1) := by decide +kernel
theorem dX6_way_9 : decode cX6_way 9 = .ok (.invokevirtual 59, 3) := by decide +kernel
theorem dX6_way_12 : decode cX6_way 12 = .ok (.aload_n 0, 1) := by decide +kernel
theorem dX6_way_13 : decode cX6_way 13 = .ok (.iload_n 3, 1) := by decide +kernel
theorem dX6_way_14 : decode cX6_way 14 = .ok (.invokevirtual 59, 3) := by decide +kernel
theorem dX6_way_17 : decode cX6_way 17 = .ok (.iload 4, 2) := by decide +kernel
theorem dX6_way_19 : decode cX6_way 19 = .ok (.invokestatic 147, 3) := by decide +kernel
theorem dX6_way_22 : decode cX6_way 22 = .ok (.aload_n 0, 1) := by decide +kernel
theorem dX6_way_23 : decode cX6_way 23 = .ok (.getfield 21, 3) := by decide +kernel
theorem dX6_way_26 : decode cX6_way 26 = .ok (.iload_n 2, 1) := by decide +kernel
theorem dX6_way_27 : decode cX6_way 27 = .ok (.aload 5, 2) := by decide +kernel
theorem dX6_way_29 : decode cX6_way 29 = .ok (.iload 4, 2) := by decide +kernel
theorem dX6_way_31 : decode cX6_way 31 = .ok (.iconst 1, 1) := by decide +kernel
theorem dX6_way_32 : decode cX6_way 32 = .ok (.invokevirtual 162, 3) := by decide +kernel
theorem dX6_way_35 : decode cX6_way 35 = .ok (.aload_n 0, 1) := by decide +kernel
theorem dX6_way_36 : decode cX6_way 36 = .ok (.iload_n 2, 1) := by decide +kernel
theorem dX6_way_37 : decode cX6_way 37 = .ok (.iload_n 3, 1) := by decide +kernel
theorem dX6_way_38 : decode cX6_way 38 = .ok (.invokevirtual 166, 3) := by decide +kernel
theorem dX6_way_41 : decode cX6_way 41 = .ok (.aload_n 0, 1) := by decide +kernel
theorem dX6_way_42 : decode cX6_way 42 = .ok (.getfield 21, 3) := by decide +kernel
theorem dX6_way_45 : decode cX6_way 45 = .ok (.iload_n 3, 1) := by decide +kernel
theorem dX6_way_46 : decode cX6_way 46 = .ok (.invokevirtual 170, 3) := by decide +kernel
theorem dX6_way_49 : decode cX6_way 49 = .ok (.lreturn, 1) := by decide +kernel
theorem dX6_step_0 : decode cX6_step 0 = .ok (.iload_n 1, 1) := by decide +kernel
theorem dX6_step_1 : decode cX6_step 1 = .ok (.ifCond .ge 13, 3) := by decide +kernel
theorem dX6_step_4 : decode cX6_step 4 = .ok (.new 174, 3) := by decide +kernel
theorem dX6_step_7 : decode cX6_step 7 = .ok (.dup, 1) := by decide +kernel
theorem dX6_step_8 : decode cX6_step 8 = .ok (.ldc 176, 2) := by decide +kernel
theorem dX6_step_10 : decode cX6_step 10 = .ok (.invokespecial 178, 3) := by decide +kernel
theorem dX6_step_13 : decode cX6_step 13 = .ok (.athrow, 1) := by decide +kernel
theorem dX6_step_14 : decode cX6_step 14 = .ok (.iload_n 1, 1) := by decide +kernel
theorem dX6_step_15 : decode cX6_step 15 = .ok (.aload_n 0, 1) := by decide +kernel
theorem dX6_step_16 : decode cX6_step 16 = .ok (.getfield 55, 3) := by decide +kernel
theorem dX6_step_19 : decode cX6_step 19 = .ok (.if_icmp .ge 19, 3) := by decide +kernel
theorem dX6_step_22 : decode cX6_step 22 = .ok (.aload_n 0, 1) := by decide +kernel
theorem dX6_step_23 : decode cX6_step 23 = .ok (.getfield 31, 3) := by decide +kernel
theorem dX6_step_26 : decode cX6_step 26 = .ok (.aload_n 0, 1) := by decide +kernel
theorem dX6_step_27 : decode cX6_step 27 = .ok (.getfield 55, 3) := by decide +kernel
theorem dX6_step_30 : decode cX6_step 30 = .ok (.iconst 1, 1) := by decide +kernel
theorem dX6_step_31 : decode cX6_step 31 = .ok (.isub, 1) := by decide +kernel
theorem dX6_step_32 : decode cX6_step 32 = .ok (.iload_n 1, 1) := by decide +kernel
theorem dX6_step_33 : decode cX6_step 33 = .ok (.isub, 1) := by decide +kernel
theorem dX6_step_34 : decode cX6_step 34 = .ok (.iaload, 1) := by decide +kernel
theorem dX6_step_35 : decode cX6_step 35 = .ok (.goto 4, 3) := by decide +kernel
theorem dX6_step_38 : decode cX6_step 38 = .ok (.iconst (-1), 1) := by decide +kernel
theorem dX6_step_39 : decode cX6_step 39 = .ok (.ireturn, 1) := by decide +kernel
set_option maxRecDepth 20000 in
theorem ggX6_walk_X6_knownUnit : GoodIn wsX6_walk wsX6_knownUnit := goodIn_ca (goodIn_r _ [6, 7, 8, 9, 10, 11, 12, 13, 14, 15, 16, 17, 18, 19, 20, 21, 22, 23, 24, 25, 26, 27, 28, 29, 30, 31, 32, 33, 34, 140, 141, 142, 143, 144, 145, 146, 147, 148, 149, 150, 151, 152] (by decide +kernel) (by decide +kernel)) (goodIn_sub (fun _ h => List.mem_cons_of_mem _ (List.mem_append_left _ (List.mem_append_right _ h))) (by decide +kernel))
set_option maxRecDepth 20000 in
theorem gX6_walk_X6_knownUnit : GoodIn wsX6_walk (wsV RX6 140 RX6 yX6_knownUnit wsX6_knownUnit) := goodIn_app (goodIn_of _ (by decide +kernel)) ggX6_walk_X6_knownUnit
set_option maxRecDepth 20000 in
theorem ggX6_walk_X6_needNode : GoodIn wsX6_walk wsX6_needNode := goodIn_ca (goodIn_r _ [38, 7, 8, 9, 39, 140, 141, 142, 143, 144, 145, 146, 147, 148, 149] (by decide +kernel) (by decide +kernel)) (goodIn_sub (fun _ h => List.mem_cons_of_mem _ (List.mem_append_left _ (List.mem_append_right _ h))) (by decide +kernel))
set_option maxRecDepth 20000 in
theorem gX6_walk_X6_needNode : GoodIn wsX6_walk (wsV RX6 59 RX6 yX6_needNode wsX6_needNode) := goodIn_app (goodIn_of _ (by decide +kernel)) ggX6_walk_X6_needNode
set_option maxRecDepth 20000 in
theorem ggX6_walk_X6_needTime : GoodIn wsX6_walk wsX6_needTime := goodIn_ca (goodIn_r _ [42, 43, 44, 45, 5, 46, 47, 48] (by decide +kernel) (by decide +kernel)) (goodIn_sub (fun _ h => List.mem_cons_of_mem _ (List.mem_append_right _ h)) (by decide +kernel))
set_option maxRecDepth 20000 in
theorem gX6_walk_X6_needTime : GoodIn wsX6_walk (va_wsS RX6 147 yX6_needTime wsX6_needTime) := goodIn_app (goodIn_of _ (by decide +kernel)) ggX6_walk_X6_needTime
set_option maxRecDepth 20000 in
theorem ggX6_walk_X6_needWithin : GoodIn wsX6_walk wsX6_needWithin := goodIn_ca (goodIn_r _ [46, 47, 48] (by decide +kernel) (by decide +kernel)) (goodIn_sub (fun _ h => List.mem_cons_of_mem _ (List.mem_append_right _ h)) (by decide +kernel))
set_option maxRecDepth 20000 in
theorem gX6_walk_X6_needWithin : GoodIn wsX6_walk (va_wsS RX6 65 yX6_needWithin wsX6_needWithin) := goodIn_app (goodIn_of _ (by decide +kernel)) ggX6_walk_X6_needWithin
set_option maxRecDepth 20000 in
theorem ggX6_walk_X3_spread : GoodIn wsX6_walk wsX3_spread := goodIn_r _ [53, 54, 55, 56, 57, 58, 59, 60, 61, 62, 63, 64, 65, 66, 52, 67, 68, 69, 70, 71, 72, 73, 13, 14, 15, 16, 17, 74, 19, 20, 21, 22, 23, 24, 25, 26, 27, 28, 29, 30, 31, 32, 33, 34, 75, 76, 77, 78, 79, 80, 81, 82, 83, 84, 85, 86, 87, 88, 89, 90, 91, 92, 93, 94, 95, 96, 97, 98, 99, 100, 101, 102, 103, 104, 105, 106, 107, 108, 109, 110, 111, 112, 113, 114, 115, 116, 117, 118, 119, 120, 121, 122, 123, 124, 125, 126, 127, 128, 129, 130, 131, 132, 133, 134, 135, 153, 154, 155, 156, 157, 158, 159, 145, 146, 147, 148, 149, 160, 161, 162, 163, 164, 165, 166, 167, 168, 169, 170, 150, 151, 152, 171, 172, 173, 174, 175, 176, 177, 178, 179] (by decide +kernel) (by decide +kernel)
set_option maxRecDepth 20000 in
theorem gX6_walk_X3_spread : GoodIn wsX6_walk (wsV RX6 162 RX3 yX3_spread wsX3_spread) := goodIn_app (goodIn_of _ (by decide +kernel)) ggX6_walk_X3_spread
set_option maxRecDepth 20000 in
theorem ggX6_walk_X3_nthTo : GoodIn wsX6_walk wsX3_nthTo := goodIn_r _ [139, 55, 106, 72, 153, 154, 155, 156, 157, 158, 159] (by decide +kernel) (by decide +kernel)
set_option maxRecDepth 20000 in
theorem gX6_walk_X3_nthTo : GoodIn wsX6_walk (wsV RX6 179 RX3 yX3_nthTo wsX3_nthTo) := goodIn_app (goodIn_of _ (by decide +kernel)) ggX6_walk_X3_nthTo
theorem dX6_walk_0 : decode cX6_walk 0 = .ok (.aload_n 0, 1) := by decide +kernel
theorem dX6_walk_1 : decode cX6_walk 1 = .ok (.iload_n 1, 1) := by decide +kernel
theorem dX6_walk_2 : decode cX6_walk 2 = .ok (.invokevirtual 140, 3) := by decide +kernel
theorem dX6_walk_5 : decode cX6_walk 5 = .ok (.astore 6, 2) := by decide +kernel
theorem dX6_walk_7 : decode cX6_walk 7 = .ok (.aload_n 0, 1) := by decide +kernel
theorem dX6_walk_8 : decode cX6_walk 8 = .ok (.iload_n 2, 1) := by decide +kernel
theorem dX6_walk_9 : decode cX6_walk 9 = .ok (.invokevirtual 59, 3) := by decide +kernel
theorem dX6_walk_12 : decode cX6_walk 12 = .ok (.aload_n 0, 1) := by decide +kernel
theorem dX6_walk_13 : decode cX6_walk 13 = .ok (.iload_n 3, 1) := by decide +kernel
theorem dX6_walk_14 : decode cX6_walk 14 = .ok (.invokevirtual 59, 3) := by decide +kernel
theorem dX6_walk_17 : decode cX6_walk 17 = .ok (.iload 4, 2) := by decide +kernel
theorem dX6_walk_19 : decode cX6_walk 19 = .ok (.invokestatic 147, 3) := by decide +kernel
theorem dX6_walk_22 : decode cX6_walk 22 = .ok (.iload 5, 2) := by decide +kernel
theorem dX6_walk_24 : decode cX6_walk 24 = .ok (.iconst 1, 1) := by decide +kernel
theorem dX6_walk_25 : decode cX6_walk 25 = .ok (.bipush 6, 2) := by decide +kernel
theorem dX6_walk_27 : decode cX6_walk 27 = .ok (.invokestatic 65, 3) := by decide +kernel
theorem dX6_walk_30 : decode cX6_walk 30 = .ok (.aload_n 0, 1) := by decide +kernel
theorem dX6_walk_31 : decode cX6_walk 31 = .ok (.getfield 21, 3) := by decide +kernel
theorem dX6_walk_34 : decode cX6_walk 34 = .ok (.iload_n 2, 1) := by decide +kernel
theorem dX6_walk_35 : decode cX6_walk 35 = .ok (.aload 6, 2) := by decide +kernel
theorem dX6_walk_37 : decode cX6_walk 37 = .ok (.iload 4, 2) := by decide +kernel
theorem dX6_walk_39 : decode cX6_walk 39 = .ok (.iload 5, 2) := by decide +kernel
theorem dX6_walk_41 : decode cX6_walk 41 = .ok (.invokevirtual 162, 3) := by decide +kernel
theorem dX6_walk_44 : decode cX6_walk 44 = .ok (.aload_n 0, 1) := by decide +kernel
theorem dX6_walk_45 : decode cX6_walk 45 = .ok (.getfield 21, 3) := by decide +kernel
theorem dX6_walk_48 : decode cX6_walk 48 = .ok (.iload_n 3, 1) := by decide +kernel
theorem dX6_walk_49 : decode cX6_walk 49 = .ok (.iload 5, 2) := by decide +kernel
theorem dX6_walk_51 : decode cX6_walk 51 = .ok (.invokevirtual 179, 3) := by decide +kernel
theorem dX6_walk_54 : decode cX6_walk 54 = .ok (.lreturn, 1) := by decide +kernel
set_option maxRecDepth 20000 in
theorem ggX6_rest_X6_knownUnit : GoodIn wsX6_rest wsX6_knownUnit := goodIn_ca (goodIn_r _ [10, 11, 12, 13, 14, 15, 16, 17, 18, 19, 20, 21, 22, 23, 24, 25, 26, 27, 28, 29, 30, 31, 32, 33, 34, 35, 36, 37, 38, 177, 178, 179, 180, 181, 182, 183, 184, 185, 186, 187, 188, 189] (by decide +kernel) (by decide +kernel)) (goodIn_sub (fun _ h => List.mem_cons_of_mem _ (List.mem_append_left _ (List.mem_append_right _ h))) (by decide +kernel))
set_option maxRecDepth 20000 in
theorem gX6_rest_X6_knownUnit : GoodIn wsX6_rest (wsV RX6 140 RX6 yX6_knownUnit wsX6_knownUnit) := goodIn_app (goodIn_of _ (by decide +kernel)) ggX6_rest_X6_knownUnit
set_option maxRecDepth 20000 in
theorem ggX6_rest_X6_knownPiece : GoodIn wsX6_rest wsX6_knownPiece := goodIn_ca (goodIn_r _ [42, 11, 12, 13, 43, 44, 16, 17, 18, 19, 20, 21, 22, 23, 24, 25, 26, 27, 28, 29, 30, 31, 32, 33, 34, 35, 36, 37, 38, 177, 178, 179, 180, 181, 182, 183, 184, 185, 186, 187, 188, 189] (by decide +kernel) (by decide +kernel)) (goodIn_sub (fun _ h => List.mem_cons_of_mem _ (List.mem_append_left _ (List.mem_append_right _ h))) (by decide +kernel))
set_option maxRecDepth 20000 in
theorem gX6_rest_X6_knownPiece : GoodIn wsX6_rest (wsV RX6 96 RX6 yX6_knownPiece wsX6_knownPiece) := goodIn_app (goodIn_of _ (by decide +kernel)) ggX6_rest_X6_knownPiece
set_option maxRecDepth 20000 in
theorem ggX6_rest_X6_needNode : GoodIn wsX6_rest wsX6_needNode := goodIn_ca (goodIn_r _ [48, 11, 12, 13, 49, 177, 178, 179, 180, 181, 182, 183, 184, 185, 186] (by decide +kernel) (by decide +kernel)) (goodIn_sub (fun _ h => List.mem_cons_of_mem _ (List.mem_append_left _ (List.mem_append_right _ h))) (by decide +kernel))
set_option maxRecDepth 20000 in
theorem gX6_rest_X6_needNode : GoodIn wsX6_rest (wsV RX6 59 RX6 yX6_needNode wsX6_needNode) := goodIn_app (goodIn_of _ (by decide +kernel)) ggX6_rest_X6_needNode
set_option maxRecDepth 20000 in
theorem ggX6_rest_X6_needTime : GoodIn wsX6_rest wsX6_needTime := goodIn_ca (goodIn_r _ [52, 53, 54, 55, 9, 56, 57, 58] (by decide +kernel) (by decide +kernel)) (goodIn_sub (fun _ h => List.mem_cons_of_mem _ (List.mem_append_right _ h)) (by decide +kernel))
set_option maxRecDepth 20000 in
theorem gX6_rest_X6_needTime : GoodIn wsX6_rest (va_wsS RX6 147 yX6_needTime wsX6_needTime) := goodIn_app (goodIn_of _ (by decide +kernel)) ggX6_rest_X6_needTime
set_option maxRecDepth 20000 in
theorem ggX6_rest_X6_needWithin : GoodIn wsX6_rest wsX6_needWithin := goodIn_ca (goodIn_r _ [56, 57, 58] (by decide +kernel) (by decide +kernel)) (goodIn_sub (fun _ h => List.mem_cons_of_mem _ (List.mem_append_right _ h)) (by decide +kernel))
set_option maxRecDepth 20000 in
theorem gX6_rest_X6_needWithin : GoodIn wsX6_rest (va_wsS RX6 65 yX6_needWithin wsX6_needWithin) := goodIn_app (goodIn_of _ (by decide +kernel)) ggX6_rest_X6_needWithin
set_option maxRecDepth 20000 in
theorem ggX6_rest_X2_letsPass : GoodIn wsX6_rest wsX2_letsPass := goodIn_r _ [63, 64, 65, 66, 67, 68, 69, 166, 167, 168, 169, 170, 171, 172, 173, 174, 175, 176, 190, 191, 192, 193, 194] (by decide +kernel) (by decide +kernel)
set_option maxRecDepth 20000 in
theorem gX6_rest_X2_letsPass : GoodIn wsX6_rest (wsV RX6 183 RX2 yX2_letsPass wsX2_letsPass) := goodIn_app (goodIn_of _ (by decide +kernel)) ggX6_rest_X2_letsPass
set_option maxRecDepth 20000 in
theorem ggX6_rest_X3_spread : GoodIn wsX6_rest wsX3_spread := goodIn_r _ [74, 75, 76, 77, 78, 79, 80, 81, 82, 83, 84, 85, 86, 87, 73, 88, 89, 90, 91, 92, 93, 94, 17, 18, 19, 20, 21, 95, 23, 24, 25, 26, 27, 28, 29, 30, 31, 32, 33, 34, 35, 36, 37, 38, 96, 60, 61, 62, 63, 64, 65, 66, 67, 68, 69, 97, 98, 99, 100, 101, 102, 103, 104, 105, 106, 107, 108, 109, 110, 111, 112, 113, 114, 115, 116, 117, 118, 119, 120, 121, 122, 123, 124, 125, 126, 127, 128, 129, 130, 131, 132, 133, 134, 135, 136, 137, 138, 139, 140, 141, 142, 143, 144, 145, 146, 195, 196, 197, 198, 199, 200, 201, 182, 183, 184, 185, 186, 166, 167, 168, 169, 170, 171, 172, 173, 174, 175, 176, 187, 188, 189, 190, 191, 192, 193, 194, 202, 203, 204, 205] (by decide +kernel) (by decide +kernel)
set_option maxRecDepth 20000 in
theorem gX6_rest_X3_spread : GoodIn wsX6_rest (wsV RX6 162 RX3 yX3_spread wsX3_spread) := goodIn_app (goodIn_of _ (by decide +kernel)) ggX6_rest_X3_spread
set_option maxRecDepth 20000 in
theorem ggX6_rest_X2_secondsFor : GoodIn wsX6_rest wsX2_secondsFor := goodIn_r _ [100, 65, 101, 102, 103, 104, 105, 106, 107, 62, 108, 109, 110, 111, 112, 166, 167, 168, 169, 170, 171, 172, 173, 174, 175, 176, 190, 191, 192, 193, 194] (by decide +kernel) (by decide +kernel)
set_option maxRecDepth 20000 in
theorem gX6_rest_X2_secondsFor : GoodIn wsX6_rest (wsV RX6 158 RX2 yX2_secondsFor wsX2_secondsFor) := goodIn_app (goodIn_of _ (by decide +kernel)) ggX6_rest_X2_secondsFor
set_option maxRecDepth 20000 in
theorem ggX6_rest_X3_leastTo : GoodIn wsX6_rest wsX3_leastTo := goodIn_r _ [151, 152, 153, 154, 73, 155, 76, 117, 93, 195, 196, 197, 198, 199, 200, 201] (by decide +kernel) (by decide +kernel)
set_option maxRecDepth 20000 in
theorem gX6_rest_X3_leastTo : GoodIn wsX6_rest (wsV RX6 170 RX3 yX3_leastTo wsX3_leastTo) := goodIn_app (goodIn_of _ (by decide +kernel)) ggX6_rest_X3_leastTo
set_option maxRecDepth 20000 in
theorem ggX6_rest_X6_sum : GoodIn wsX6_rest wsX6_sum := goodIn_r _ [158, 2] (by decide +kernel) (by decide +kernel)
set_option maxRecDepth 20000 in
theorem gX6_rest_X6_sum : GoodIn wsX6_rest (va_wsS RX6 192 yX6_sum wsX6_sum) := goodIn_app (goodIn_of _ (by decide +kernel)) ggX6_rest_X6_sum
set_option maxRecDepth 20000 in
theorem ggX6_rest_X6_lesser : GoodIn wsX6_rest wsX6_lesser := goodIn_r _ [161, 2, 162, 163, 164, 165] (by decide +kernel) (by decide +kernel)
set_option maxRecDepth 20000 in
theorem gX6_rest_X6_lesser : GoodIn wsX6_rest (va_wsS RX6 199 yX6_lesser wsX6_lesser) := goodIn_app (goodIn_of _ (by decide +kernel)) ggX6_rest_X6_lesser
theorem dX6_rest_0 : decode cX6_rest 0 = .ok (.aload_n 0, 1) := by decide +kernel
theorem dX6_rest_1 : decode cX6_rest 1 = .ok (.iload_n 1, 1) := by decide +kernel
theorem dX6_rest_2 : decode cX6_rest 2 = .ok (.invokevirtual 140, 3) := by decide +kernel
theorem dX6_rest_5 : decode cX6_rest 5 = .ok (.astore 6, 2) := by decide +kernel
theorem dX6_rest_7 : decode cX6_rest 7 = .ok (.aload_n 0, 1) := by decide +kernel
theorem dX6_rest_8 : decode cX6_rest 8 = .ok (.iload_n 2, 1) := by decide +kernel
theorem dX6_rest_9 : decode cX6_rest 9 = .ok (.invokevirtual 96, 3) := by decide +kernel
theorem dX6_rest_12 : decode cX6_rest 12 = .ok (.astore 7, 2) := by decide +kernel
theorem dX6_rest_14 : decode cX6_rest 14 = .ok (.aload_n 0, 1) := by decide +kernel
theorem dX6_rest_15 : decode cX6_rest 15 = .ok (.iload 4, 2) := by decide +kernel
theorem dX6_rest_17 : decode cX6_rest 17 = .ok (.invokevirtual 59, 3) := by decide +kernel
theorem dX6_rest_20 : decode cX6_rest 20 = .ok (.iload 5, 2) := by decide +kernel
theorem dX6_rest_22 : decode cX6_rest 22 = .ok (.invokestatic 147, 3) := by decide +kernel
theorem dX6_rest_25 : decode cX6_rest 25 = .ok (.iload_n 3, 1) := by decide +kernel
theorem dX6_rest_26 : decode cX6_rest 26 = .ok (.iconst 0, 1) := by decide +kernel
theorem dX6_rest_27 : decode cX6_rest 27 = .ok (.aload 7, 2) := by decide +kernel
theorem dX6_rest_29 : decode cX6_rest 29 = .ok (.getfield 155, 3) := by decide +kernel
theorem dX6_rest_32 : decode cX6_rest 32 = .ok (.invokestatic 65, 3) := by decide +kernel
theorem dX6_rest_35 : decode cX6_rest 35 = .ok (.aload 7, 2) := by decide +kernel
theorem dX6_rest_37 : decode cX6_rest 37 = .ok (.aload 6, 2) := by decide +kernel
theorem dX6_rest_39 : decode cX6_rest 39 = .ok (.invokevirtual 183, 3) := by decide +kernel
theorem dX6_rest_42 : decode cX6_rest 42 = .ok (.ifCond .ne 7, 3) := by decide +kernel
theorem dX6_rest_45 : decode cX6_rest 45 = .ok (.ldc2_w 187, 3) := by decide +kernel
theorem dX6_rest_48 : decode cX6_rest 48 = .ok (.lreturn, 1) := by decide +kernel
theorem dX6_rest_49 : decode cX6_rest 49 = .ok (.aload_n 0, 1) := by decide +kernel
theorem dX6_rest_50 : decode cX6_rest 50 = .ok (.getfield 21, 3) := by decide +kernel
theorem dX6_rest_53 : decode cX6_rest 53 = .ok (.iload 4, 2) := by decide +kernel
theorem dX6_rest_55 : decode cX6_rest 55 = .ok (.aload 6, 2) := by decide +kernel
theorem dX6_rest_57 : decode cX6_rest 57 = .ok (.iload 5, 2) := by decide +kernel
theorem dX6_rest_59 : decode cX6_rest 59 = .ok (.iconst 1, 1) := by decide +kernel
theorem dX6_rest_60 : decode cX6_rest 60 = .ok (.invokevirtual 162, 3) := by decide +kernel
theorem dX6_rest_63 : decode cX6_rest 63 = .ok (.aload 7, 2) := by decide +kernel
theorem dX6_rest_65 : decode cX6_rest 65 = .ok (.aload 6, 2) := by decide +kernel
theorem dX6_rest_67 : decode cX6_rest 67 = .ok (.iload_n 3, 1) := by decide +kernel
theorem dX6_rest_68 : decode cX6_rest 68 = .ok (.iload 5, 2) := by decide +kernel
theorem dX6_rest_70 : decode cX6_rest 70 = .ok (.invokevirtual 158, 3) := by decide +kernel
theorem dX6_rest_73 : decode cX6_rest 73 = .ok (.aload_n 0, 1) := by decide +kernel
theorem dX6_rest_74 : decode cX6_rest 74 = .ok (.getfield 21, 3) := by decide +kernel
theorem dX6_rest_77 : decode cX6_rest 77 = .ok (.aload 7, 2) := by decide +kernel
theorem dX6_rest_79 : decode cX6_rest 79 = .ok (.getfield 189, 3) := by decide +kernel
theorem dX6_rest_82 : decode cX6_rest 82 = .ok (.invokevirtual 170, 3) := by decide +kernel
theorem dX6_rest_85 : decode cX6_rest 85 = .ok (.invokestatic 192, 3) := by decide +kernel
theorem dX6_rest_88 : decode cX6_rest 88 = .ok (.lstore 8, 2) := by decide +kernel
theorem dX6_rest_90 : decode cX6_rest 90 = .ok (.aload 7, 2) := by decide +kernel
theorem dX6_rest_92 : decode cX6_rest 92 = .ok (.aload 6, 2) := by decide +kernel
theorem dX6_rest_94 : decode cX6_rest 94 = .ok (.aload 7, 2) := by decide +kernel
theorem dX6_rest_96 : decode cX6_rest 96 = .ok (.getfield 155, 3) := by decide +kernel
theorem dX6_rest_99 : decode cX6_rest 99 = .ok (.iload_n 3, 1) := by decide +kernel
theorem dX6_rest_100 : decode cX6_rest 100 = .ok (.isub, 1) := by decide +kernel
theorem dX6_rest_101 : decode cX6_rest 101 = .ok (.iload 5, 2) := by decide +kernel
theorem dX6_rest_103 : decode cX6_rest 103 = .ok (.invokevirtual 158, 3) := by decide +kernel
theorem dX6_rest_106 : decode cX6_rest 106 = .ok (.aload_n 0, 1) := by decide +kernel
theorem dX6_rest_107 : decode cX6_rest 107 = .ok (.getfield 21, 3) := by decide +kernel
theorem dX6_rest_110 : decode cX6_rest 110 = .ok (.aload 7, 2) := by decide +kernel
theorem dX6_rest_112 : decode cX6_rest 112 = .ok (.getfield 196, 3) := by decide +kernel
theorem dX6_rest_115 : decode cX6_rest 115 = .ok (.invokevirtual 170, 3) := by decide +kernel
theorem dX6_rest_118 : decode cX6_rest 118 = .ok (.invokestatic 192, 3) := by decide +kernel
theorem dX6_rest_121 : decode cX6_rest 121 = .ok (.lstore 10, 2) := by decide +kernel
theorem dX6_rest_123 : decode cX6_rest 123 = .ok (.lload 8, 2) := by decide +kernel
theorem dX6_rest_125 : decode cX6_rest 125 = .ok (.lload 10, 2) := by decide +kernel
theorem dX6_rest_127 : decode cX6_rest 127 = .ok (.invokestatic 199, 3) := by decide +kernel
theorem dX6_rest_130 : decode cX6_rest 130 = .ok (.lreturn, 1) := by decide +kernel
set_option maxRecDepth 20000 in
theorem ggX6_nearest_X6_needNode : GoodIn wsX6_nearest wsX6_needNode := goodIn_ca (goodIn_r _ [11, 12, 13, 2, 14, 142, 143, 144, 145, 146, 147, 148, 149, 150, 151] (by decide +kernel) (by decide +kernel)) (goodIn_sub (fun _ h => List.mem_cons_of_mem _ (List.mem_append_left _ (List.mem_append_right _ h))) (by decide +kernel))
set_option maxRecDepth 20000 in
theorem gX6_nearest_X6_needNode : GoodIn wsX6_nearest (wsV RX6 59 RX6 yX6_needNode wsX6_needNode) := goodIn_app (goodIn_of _ (by decide +kernel)) ggX6_nearest_X6_needNode
set_option maxRecDepth 20000 in
theorem ggX6_nearest_X6_needTime : GoodIn wsX6_nearest wsX6_needTime := goodIn_ca (goodIn_r _ [17, 18, 19, 20, 10, 21, 22, 23] (by decide +kernel) (by decide +kernel)) (goodIn_sub (fun _ h => List.mem_cons_of_mem _ (List.mem_append_right _ h)) (by decide +kernel))
set_option maxRecDepth 20000 in
theorem gX6_nearest_X6_needTime : GoodIn wsX6_nearest (va_wsS RX6 147 yX6_needTime wsX6_needTime) := goodIn_app (goodIn_of _ (by decide +kernel)) ggX6_nearest_X6_needTime
set_option maxRecDepth 20000 in
theorem ggX6_nearest_Jx4a65c_size_8abf5 : GoodIn wsX6_nearest wsJx4a65c_size_8abf5 := goodIn_r _ [28, 29, 157, 158, 159] (by decide +kernel) (by decide +kernel)
set_option maxRecDepth 20000 in
theorem gX6_nearest_Jx4a65c_size_8abf5 : GoodIn wsX6_nearest (wsV RX6 73 RJx4a65c yJx4a65c_size_8abf5 wsJx4a65c_size_8abf5) := goodIn_app (goodIn_of _ (by decide +kernel)) ggX6_nearest_Jx4a65c_size_8abf5
set_option maxRecDepth 20000 in
theorem ggX6_nearest_Jx4a65c_get_915e3 : GoodIn wsX6_nearest wsJx4a65c_get_915e3 := goodIn_r _ [33, 29, 34, 35, 36, 37, 38, 39, 40, 41, 42, 43, 44, 27, 45, 46, 157, 158, 159] (by decide +kernel) (by decide +kernel)
set_option maxRecDepth 20000 in
theorem gX6_nearest_Jx4a65c_get_915e3 : GoodIn wsX6_nearest (wsV RX6 202 RJx4a65c yJx4a65c_get_915e3 wsJx4a65c_get_915e3) := goodIn_app (goodIn_of _ (by decide +kernel)) ggX6_nearest_Jx4a65c_get_915e3
set_option maxRecDepth 20000 in
theorem ggX6_nearest_X3_spread : GoodIn wsX6_nearest wsX3_spread := goodIn_r _ [51, 52, 53, 54, 55, 56, 57, 58, 59, 60, 61, 62, 63, 64, 50, 65, 66, 67, 68, 69, 70, 71, 25, 26, 27, 28, 29, 72, 31, 32, 33, 34, 35, 36, 37, 38, 39, 40, 41, 42, 43, 44, 45, 46, 73, 74, 75, 76, 77, 78, 79, 80, 81, 82, 83, 84, 85, 86, 87, 88, 89, 90, 91, 92, 93, 94, 95, 96, 97, 98, 99, 100, 101, 102, 103, 104, 105, 106, 107, 108, 109, 110, 111, 112, 113, 114, 115, 116, 117, 118, 119, 120, 121, 122, 123, 124, 125, 126, 127, 128, 129, 130, 131, 132, 133, 160, 161, 162, 163, 164, 165, 166, 147, 148, 149, 150, 151, 167, 168, 169, 170, 171, 172, 173, 174, 175, 176, 177, 157, 158, 159, 152, 153, 154, 155, 156, 178, 179, 180, 181] (by decide +kernel) (by decide +kernel)
set_option maxRecDepth 20000 in
theorem gX6_nearest_X3_spread : GoodIn wsX6_nearest (wsV RX6 162 RX3 yX3_spread wsX3_spread) := goodIn_app (goodIn_of _ (by decide +kernel)) ggX6_nearest_X3_spread
set_option maxRecDepth 20000 in
theorem ggX6_nearest_X3_leastTo : GoodIn wsX6_nearest wsX3_leastTo := goodIn_r _ [137, 138, 139, 140, 50, 141, 53, 104, 70, 160, 161, 162, 163, 164, 165, 166] (by decide +kernel) (by decide +kernel)
set_option maxRecDepth 20000 in
theorem gX6_nearest_X3_leastTo : GoodIn wsX6_nearest (wsV RX6 170 RX3 yX3_leastTo wsX3_leastTo) := goodIn_app (goodIn_of _ (by decide +kernel)) ggX6_nearest_X3_leastTo
theorem dX6_nearest_0 : decode cX6_nearest 0 = .ok (.aload_n 0, 1) := by decide +kernel
theorem dX6_nearest_1 : decode cX6_nearest 1 = .ok (.iload_n 1, 1) := by decide +kernel
theorem dX6_nearest_2 : decode cX6_nearest 2 = .ok (.invokevirtual 59, 3) := by decide +kernel
theorem dX6_nearest_5 : decode cX6_nearest 5 = .ok (.iload_n 2, 1) := by decide +kernel
theorem dX6_nearest_6 : decode cX6_nearest 6 = .ok (.invokestatic 147, 3) := by decide +kernel
theorem dX6_nearest_9 : decode cX6_nearest 9 = .ok (.iconst (-1), 1) := by decide +kernel
theorem dX6_nearest_10 : decode cX6_nearest 10 = .ok (.istore_n 3, 1) := by decide +kernel
theorem dX6_nearest_11 : decode cX6_nearest 11 = .ok (.ldc2_w 187, 3) := by decide +kernel
theorem dX6_nearest_14 : decode cX6_nearest 14 = .ok (.lstore 4, 2) := by decide +kernel
theorem dX6_nearest_16 : decode cX6_nearest 16 = .ok (.iconst 0, 1) := by decide +kernel
theorem dX6_nearest_17 : decode cX6_nearest 17 = .ok (.istore 6, 2) := by decide +kernel
theorem dX6_nearest_19 : decode cX6_nearest 19 = .ok (.iload 6, 2) := by decide +kernel
theorem dX6_nearest_21 : decode cX6_nearest 21 = .ok (.aload_n 0, 1) := by decide +kernel
theorem dX6_nearest_22 : decode cX6_nearest 22 = .ok (.getfield 10, 3) := by decide +kernel
theorem dX6_nearest_25 : decode cX6_nearest 25 = .ok (.getfield 126, 3) := by decide +kernel
theorem dX6_nearest_28 : decode cX6_nearest 28 = .ok (.invokevirtual 73, 3) := by decide +kernel
theorem dX6_nearest_31 : decode cX6_nearest 31 = .ok (.if_icmp .ge 81, 3) := by decide +kernel
theorem dX6_nearest_34 : decode cX6_nearest 34 = .ok (.aload_n 0, 1) := by decide +kernel
theorem dX6_nearest_35 : decode cX6_nearest 35 = .ok (.getfield 10, 3) := by decide +kernel
theorem dX6_nearest_38 : decode cX6_nearest 38 = .ok (.getfield 126, 3) := by decide +kernel
theorem dX6_nearest_41 : decode cX6_nearest 41 = .ok (.iload 6, 2) := by decide +kernel
theorem dX6_nearest_43 : decode cX6_nearest 43 = .ok (.invokevirtual 202, 3) := by decide +kernel
theorem dX6_nearest_46 : decode cX6_nearest 46 = .ok (.checkcast 131, 3) := by decide +kernel
theorem dX6_nearest_49 : decode cX6_nearest 49 = .ok (.astore 7, 2) := by decide +kernel
theorem dX6_nearest_51 : decode cX6_nearest 51 = .ok (.aload_n 0, 1) := by decide +kernel
theorem dX6_nearest_52 : decode cX6_nearest 52 = .ok (.getfield 21, 3) := by decide +kernel
theorem dX6_nearest_55 : decode cX6_nearest 55 = .ok (.aload 7, 2) := by decide +kernel
theorem dX6_nearest_57 : decode cX6_nearest 57 = .ok (.getfield 144, 3) := by decide +kernel
theorem dX6_nearest_60 : decode cX6_nearest 60 = .ok (.aload 7, 2) := by decide +kernel
theorem dX6_nearest_62 : decode cX6_nearest 62 = .ok (.iload_n 2, 1) := by decide +kernel
theorem dX6_nearest_63 : decode cX6_nearest 63 = .ok (.iconst 1, 1) := by decide +kernel
theorem dX6_nearest_64 : decode cX6_nearest 64 = .ok (.invokevirtual 162, 3) := by decide +kernel
theorem dX6_nearest_67 : decode cX6_nearest 67 = .ok (.aload_n 0, 1) := by decide +kernel
theorem dX6_nearest_68 : decode cX6_nearest 68 = .ok (.getfield 21, 3) := by decide +kernel
theorem dX6_nearest_71 : decode cX6_nearest 71 = .ok (.iload_n 1, 1) := by decide +kernel
theorem dX6_nearest_72 : decode cX6_nearest 72 = .ok (.invokevirtual 170, 3) := by decide +kernel
theorem dX6_nearest_75 : decode cX6_nearest 75 = .ok (.lstore 8, 2) := by decide +kernel
theorem dX6_nearest_77 : decode cX6_nearest 77 = .ok (.lload 8, 2) := by decide +kernel
theorem dX6_nearest_79 : decode cX6_nearest 79 = .ok (.ldc2_w 187, 3) := by decide +kernel
