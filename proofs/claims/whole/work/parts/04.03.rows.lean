theorem dX7_piece_61 : decode cX7_piece 61 = .ok (.if_icmp .ge 7, 3) := by decide +kernel
theorem dX7_piece_64 : decode cX7_piece 64 = .ok (.iconst 1, 1) := by decide +kernel
theorem dX7_piece_65 : decode cX7_piece 65 = .ok (.goto 4, 3) := by decide +kernel
theorem dX7_piece_68 : decode cX7_piece 68 = .ok (.iconst 0, 1) := by decide +kernel
theorem dX7_piece_69 : decode cX7_piece 69 = .ok (.invokevirtual 132, 3) := by decide +kernel
theorem dX7_piece_72 : decode cX7_piece 72 = .ok (.ifCond .ne 5, 3) := by decide +kernel
theorem dX7_piece_75 : decode cX7_piece 75 = .ok (.iconst 0, 1) := by decide +kernel
theorem dX7_piece_76 : decode cX7_piece 76 = .ok (.ireturn, 1) := by decide +kernel
theorem dX7_piece_77 : decode cX7_piece 77 = .ok (.aload_n 0, 1) := by decide +kernel
theorem dX7_piece_78 : decode cX7_piece 78 = .ok (.getfield 7, 3) := by decide +kernel
theorem dX7_piece_81 : decode cX7_piece 81 = .ok (.aload_n 0, 1) := by decide +kernel
theorem dX7_piece_82 : decode cX7_piece 82 = .ok (.getfield 94, 3) := by decide +kernel
theorem dX7_piece_85 : decode cX7_piece 85 = .ok (.iload_n 1, 1) := by decide +kernel
theorem dX7_piece_86 : decode cX7_piece 86 = .ok (.iastore, 1) := by decide +kernel
theorem dX7_piece_87 : decode cX7_piece 87 = .ok (.aload_n 0, 1) := by decide +kernel
theorem dX7_piece_88 : decode cX7_piece 88 = .ok (.getfield 13, 3) := by decide +kernel
theorem dX7_piece_91 : decode cX7_piece 91 = .ok (.aload_n 0, 1) := by decide +kernel
theorem dX7_piece_92 : decode cX7_piece 92 = .ok (.getfield 94, 3) := by decide +kernel
theorem dX7_piece_95 : decode cX7_piece 95 = .ok (.iload_n 2, 1) := by decide +kernel
theorem dX7_piece_96 : decode cX7_piece 96 = .ok (.iastore, 1) := by decide +kernel
theorem dX7_piece_97 : decode cX7_piece 97 = .ok (.aload_n 0, 1) := by decide +kernel
theorem dX7_piece_98 : decode cX7_piece 98 = .ok (.getfield 16, 3) := by decide +kernel
theorem dX7_piece_101 : decode cX7_piece 101 = .ok (.aload_n 0, 1) := by decide +kernel
theorem dX7_piece_102 : decode cX7_piece 102 = .ok (.getfield 94, 3) := by decide +kernel
theorem dX7_piece_105 : decode cX7_piece 105 = .ok (.iload_n 3, 1) := by decide +kernel
theorem dX7_piece_106 : decode cX7_piece 106 = .ok (.iastore, 1) := by decide +kernel
theorem dX7_piece_107 : decode cX7_piece 107 = .ok (.aload_n 0, 1) := by decide +kernel
theorem dX7_piece_108 : decode cX7_piece 108 = .ok (.getfield 19, 3) := by decide +kernel
theorem dX7_piece_111 : decode cX7_piece 111 = .ok (.aload_n 0, 1) := by decide +kernel
theorem dX7_piece_112 : decode cX7_piece 112 = .ok (.getfield 94, 3) := by decide +kernel
theorem dX7_piece_115 : decode cX7_piece 115 = .ok (.iload 4, 2) := by decide +kernel
theorem dX7_piece_117 : decode cX7_piece 117 = .ok (.iastore, 1) := by decide +kernel
theorem dX7_piece_118 : decode cX7_piece 118 = .ok (.aload_n 0, 1) := by decide +kernel
theorem dX7_piece_119 : decode cX7_piece 119 = .ok (.getfield 22, 3) := by decide +kernel
theorem dX7_piece_122 : decode cX7_piece 122 = .ok (.aload_n 0, 1) := by decide +kernel
theorem dX7_piece_123 : decode cX7_piece 123 = .ok (.getfield 94, 3) := by decide +kernel
theorem dX7_piece_126 : decode cX7_piece 126 = .ok (.iconst 0, 1) := by decide +kernel
theorem dX7_piece_127 : decode cX7_piece 127 = .ok (.iastore, 1) := by decide +kernel
theorem dX7_piece_128 : decode cX7_piece 128 = .ok (.aload_n 0, 1) := by decide +kernel
theorem dX7_piece_129 : decode cX7_piece 129 = .ok (.getfield 25, 3) := by decide +kernel
theorem dX7_piece_132 : decode cX7_piece 132 = .ok (.aload_n 0, 1) := by decide +kernel
theorem dX7_piece_133 : decode cX7_piece 133 = .ok (.getfield 94, 3) := by decide +kernel
theorem dX7_piece_136 : decode cX7_piece 136 = .ok (.iconst 0, 1) := by decide +kernel
theorem dX7_piece_137 : decode cX7_piece 137 = .ok (.iastore, 1) := by decide +kernel
theorem dX7_piece_138 : decode cX7_piece 138 = .ok (.aload_n 0, 1) := by decide +kernel
theorem dX7_piece_139 : decode cX7_piece 139 = .ok (.getfield 28, 3) := by decide +kernel
theorem dX7_piece_142 : decode cX7_piece 142 = .ok (.aload_n 0, 1) := by decide +kernel
theorem dX7_piece_143 : decode cX7_piece 143 = .ok (.getfield 94, 3) := by decide +kernel
theorem dX7_piece_146 : decode cX7_piece 146 = .ok (.iconst 0, 1) := by decide +kernel
theorem dX7_piece_147 : decode cX7_piece 147 = .ok (.bastore, 1) := by decide +kernel
theorem dX7_piece_148 : decode cX7_piece 148 = .ok (.aload_n 0, 1) := by decide +kernel
theorem dX7_piece_149 : decode cX7_piece 149 = .ok (.getfield 32, 3) := by decide +kernel
theorem dX7_piece_152 : decode cX7_piece 152 = .ok (.aload_n 0, 1) := by decide +kernel
theorem dX7_piece_153 : decode cX7_piece 153 = .ok (.getfield 94, 3) := by decide +kernel
theorem dX7_piece_156 : decode cX7_piece 156 = .ok (.iconst 0, 1) := by decide +kernel
theorem dX7_piece_157 : decode cX7_piece 157 = .ok (.iastore, 1) := by decide +kernel
theorem dX7_piece_158 : decode cX7_piece 158 = .ok (.aload_n 0, 1) := by decide +kernel
theorem dX7_piece_159 : decode cX7_piece 159 = .ok (.dup, 1) := by decide +kernel
theorem dX7_piece_160 : decode cX7_piece 160 = .ok (.getfield 94, 3) := by decide +kernel
theorem dX7_piece_163 : decode cX7_piece 163 = .ok (.iconst 1, 1) := by decide +kernel
theorem dX7_piece_164 : decode cX7_piece 164 = .ok (.iadd, 1) := by decide +kernel
theorem dX7_piece_165 : decode cX7_piece 165 = .ok (.putfield 94, 3) := by decide +kernel
theorem dX7_piece_168 : decode cX7_piece 168 = .ok (.aload_n 0, 1) := by decide +kernel
theorem dX7_piece_169 : decode cX7_piece 169 = .ok (.invokevirtual 136, 3) := by decide +kernel
theorem dX7_piece_172 : decode cX7_piece 172 = .ok (.istore 5, 2) := by decide +kernel
theorem dX7_piece_174 : decode cX7_piece 174 = .ok (.aload_n 0, 1) := by decide +kernel
theorem dX7_piece_175 : decode cX7_piece 175 = .ok (.getfield 94, 3) := by decide +kernel
theorem dX7_piece_178 : decode cX7_piece 178 = .ok (.iconst 1, 1) := by decide +kernel
theorem dX7_piece_179 : decode cX7_piece 179 = .ok (.isub, 1) := by decide +kernel
theorem dX7_piece_180 : decode cX7_piece 180 = .ok (.ireturn, 1) := by decide +kernel
set_option maxRecDepth 20000 in
theorem ggX7_limit_X7_isPiece : GoodIn wsX7_limit wsX7_isPiece := goodIn_r _ [7, 8, 9, 10, 6, 11, 59, 60, 61, 62, 63, 64, 65, 66, 67, 68, 69, 70, 71, 72, 73, 74, 75, 76, 77, 78, 79, 80, 81, 82, 83, 84, 85, 86, 87, 88] (by decide +kernel) (by decide +kernel)
set_option maxRecDepth 20000 in
theorem gX7_limit_X7_isPiece : GoodIn wsX7_limit (wsV RX7 140 RX7 yX7_isPiece wsX7_isPiece) := goodIn_app (goodIn_of _ (by decide +kernel)) ggX7_limit_X7_isPiece
set_option maxRecDepth 20000 in
theorem ggX7_limit_X7_in : GoodIn wsX7_limit wsX7_in := goodIn_r _ [11] (by decide +kernel) (by decide +kernel)
set_option maxRecDepth 20000 in
theorem gX7_limit_X7_in : GoodIn wsX7_limit (va_wsS RX7 103 yX7_in wsX7_in) := goodIn_app (goodIn_of _ (by decide +kernel)) ggX7_limit_X7_in
set_option maxRecDepth 20000 in
theorem ggX7_limit_X7_goes : GoodIn wsX7_limit wsX7_goes := goodIn_r _ [15, 16, 59, 60, 61, 62, 63, 64, 65, 66, 67, 68, 69, 70, 71, 72, 73, 74, 75, 76, 77, 78, 79, 80, 81, 82, 83, 84, 85, 86, 87, 88] (by decide +kernel) (by decide +kernel)
set_option maxRecDepth 20000 in
theorem gX7_limit_X7_goes : GoodIn wsX7_limit (wsV RX7 132 RX7 yX7_goes wsX7_goes) := goodIn_app (goodIn_of _ (by decide +kernel)) ggX7_limit_X7_goes
set_option maxRecDepth 20000 in
theorem ggX7_limit_X7_redo : GoodIn wsX7_limit wsX7_redo := goodIn_r _ [20, 21, 22, 23, 24, 25, 26, 27, 28, 29, 30, 6, 31, 32, 8, 33, 34, 35, 36, 37, 38, 39, 40, 41, 1, 42, 2, 43, 44, 45, 46, 47, 48, 49, 50, 51, 52, 53, 54, 55, 56, 57, 58, 9, 10, 11, 59, 60, 61, 62, 63, 64, 65, 66, 67, 68, 69, 70, 71, 72, 73, 74, 75, 76, 77, 78, 79, 80, 81, 82, 83, 84, 85, 86, 87, 88] (by decide +kernel) (by decide +kernel)
set_option maxRecDepth 20000 in
theorem gX7_limit_X7_redo : GoodIn wsX7_limit (wsV RX7 136 RX7 yX7_redo wsX7_redo) := goodIn_app (goodIn_of _ (by decide +kernel)) ggX7_limit_X7_redo
theorem dX7_limit_0 : decode cX7_limit 0 = .ok (.aload_n 0, 1) := by decide +kernel
theorem dX7_limit_1 : decode cX7_limit 1 = .ok (.aload_n 0, 1) := by decide +kernel
theorem dX7_limit_2 : decode cX7_limit 2 = .ok (.iload_n 1, 1) := by decide +kernel
theorem dX7_limit_3 : decode cX7_limit 3 = .ok (.invokevirtual 140, 3) := by decide +kernel
theorem dX7_limit_6 : decode cX7_limit 6 = .ok (.iload_n 2, 1) := by decide +kernel
theorem dX7_limit_7 : decode cX7_limit 7 = .ok (.iconst 0, 1) := by decide +kernel
theorem dX7_limit_8 : decode cX7_limit 8 = .ok (.sipush 1000, 3) := by decide +kernel
theorem dX7_limit_11 : decode cX7_limit 11 = .ok (.invokestatic 103, 3) := by decide +kernel
theorem dX7_limit_14 : decode cX7_limit 14 = .ok (.ifCond .eq 18, 3) := by decide +kernel
theorem dX7_limit_17 : decode cX7_limit 17 = .ok (.iload_n 3, 1) := by decide +kernel
theorem dX7_limit_18 : decode cX7_limit 18 = .ok (.iconst 0, 1) := by decide +kernel
theorem dX7_limit_19 : decode cX7_limit 19 = .ok (.sipush 1000, 3) := by decide +kernel
theorem dX7_limit_22 : decode cX7_limit 22 = .ok (.invokestatic 103, 3) := by decide +kernel
theorem dX7_limit_25 : decode cX7_limit 25 = .ok (.ifCond .eq 7, 3) := by decide +kernel
theorem dX7_limit_28 : decode cX7_limit 28 = .ok (.iconst 1, 1) := by decide +kernel
theorem dX7_limit_29 : decode cX7_limit 29 = .ok (.goto 4, 3) := by decide +kernel
theorem dX7_limit_32 : decode cX7_limit 32 = .ok (.iconst 0, 1) := by decide +kernel
theorem dX7_limit_33 : decode cX7_limit 33 = .ok (.iconst 1, 1) := by decide +kernel
theorem dX7_limit_34 : decode cX7_limit 34 = .ok (.invokevirtual 132, 3) := by decide +kernel
theorem dX7_limit_37 : decode cX7_limit 37 = .ok (.ifCond .ne 5, 3) := by decide +kernel
theorem dX7_limit_40 : decode cX7_limit 40 = .ok (.iconst 0, 1) := by decide +kernel
theorem dX7_limit_41 : decode cX7_limit 41 = .ok (.ireturn, 1) := by decide +kernel
theorem dX7_limit_42 : decode cX7_limit 42 = .ok (.aload_n 0, 1) := by decide +kernel
theorem dX7_limit_43 : decode cX7_limit 43 = .ok (.getfield 22, 3) := by decide +kernel
theorem dX7_limit_46 : decode cX7_limit 46 = .ok (.iload_n 1, 1) := by decide +kernel
theorem dX7_limit_47 : decode cX7_limit 47 = .ok (.iload_n 2, 1) := by decide +kernel
theorem dX7_limit_48 : decode cX7_limit 48 = .ok (.iastore, 1) := by decide +kernel
theorem dX7_limit_49 : decode cX7_limit 49 = .ok (.aload_n 0, 1) := by decide +kernel
theorem dX7_limit_50 : decode cX7_limit 50 = .ok (.getfield 25, 3) := by decide +kernel
theorem dX7_limit_53 : decode cX7_limit 53 = .ok (.iload_n 1, 1) := by decide +kernel
theorem dX7_limit_54 : decode cX7_limit 54 = .ok (.iload_n 3, 1) := by decide +kernel
theorem dX7_limit_55 : decode cX7_limit 55 = .ok (.iastore, 1) := by decide +kernel
theorem dX7_limit_56 : decode cX7_limit 56 = .ok (.aload_n 0, 1) := by decide +kernel
theorem dX7_limit_57 : decode cX7_limit 57 = .ok (.invokevirtual 136, 3) := by decide +kernel
theorem dX7_limit_60 : decode cX7_limit 60 = .ok (.ireturn, 1) := by decide +kernel
set_option maxRecDepth 20000 in
theorem ggX7_slow_X7_isPiece : GoodIn wsX7_slow wsX7_isPiece := goodIn_r _ [9, 10, 11, 12, 8, 13, 59, 60, 61, 62, 63, 64, 65, 66, 67, 68, 69, 70, 71, 72, 73, 74, 75, 76, 77, 78, 79, 80, 81, 82, 83, 84, 85, 86, 87, 88] (by decide +kernel) (by decide +kernel)
set_option maxRecDepth 20000 in
theorem gX7_slow_X7_isPiece : GoodIn wsX7_slow (wsV RX7 140 RX7 yX7_isPiece wsX7_isPiece) := goodIn_app (goodIn_of _ (by decide +kernel)) ggX7_slow_X7_isPiece
set_option maxRecDepth 20000 in
theorem ggX7_slow_X7_in : GoodIn wsX7_slow wsX7_in := goodIn_r _ [13] (by decide +kernel) (by decide +kernel)
set_option maxRecDepth 20000 in
theorem gX7_slow_X7_in : GoodIn wsX7_slow (va_wsS RX7 103 yX7_in wsX7_in) := goodIn_app (goodIn_of _ (by decide +kernel)) ggX7_slow_X7_in
set_option maxRecDepth 20000 in
theorem ggX7_slow_X7_goes : GoodIn wsX7_slow wsX7_goes := goodIn_r _ [17, 18, 59, 60, 61, 62, 63, 64, 65, 66, 67, 68, 69, 70, 71, 72, 73, 74, 75, 76, 77, 78, 79, 80, 81, 82, 83, 84, 85, 86, 87, 88] (by decide +kernel) (by decide +kernel)
set_option maxRecDepth 20000 in
theorem gX7_slow_X7_goes : GoodIn wsX7_slow (wsV RX7 132 RX7 yX7_goes wsX7_goes) := goodIn_app (goodIn_of _ (by decide +kernel)) ggX7_slow_X7_goes
set_option maxRecDepth 20000 in
theorem ggX7_slow_X7_redo : GoodIn wsX7_slow wsX7_redo := goodIn_r _ [22, 23, 24, 25, 26, 27, 28, 29, 30, 31, 32, 8, 33, 34, 10, 35, 36, 37, 38, 39, 40, 41, 42, 43, 44, 45, 46, 47, 48, 49, 50, 51, 52, 53, 54, 55, 56, 57, 58, 1, 2, 3, 4, 11, 12, 13, 59, 60, 61, 62, 63, 64, 65, 66, 67, 68, 69, 70, 71, 72, 73, 74, 75, 76, 77, 78, 79, 80, 81, 82, 83, 84, 85, 86, 87, 88] (by decide +kernel) (by decide +kernel)
set_option maxRecDepth 20000 in
theorem gX7_slow_X7_redo : GoodIn wsX7_slow (wsV RX7 136 RX7 yX7_redo wsX7_redo) := goodIn_app (goodIn_of _ (by decide +kernel)) ggX7_slow_X7_redo
theorem dX7_slow_0 : decode cX7_slow 0 = .ok (.aload_n 0, 1) := by decide +kernel
theorem dX7_slow_1 : decode cX7_slow 1 = .ok (.aload_n 0, 1) := by decide +kernel
theorem dX7_slow_2 : decode cX7_slow 2 = .ok (.iload_n 1, 1) := by decide +kernel
theorem dX7_slow_3 : decode cX7_slow 3 = .ok (.invokevirtual 140, 3) := by decide +kernel
theorem dX7_slow_6 : decode cX7_slow 6 = .ok (.iload_n 2, 1) := by decide +kernel
theorem dX7_slow_7 : decode cX7_slow 7 = .ok (.iconst 0, 1) := by decide +kernel
theorem dX7_slow_8 : decode cX7_slow 8 = .ok (.bipush 23, 2) := by decide +kernel
theorem dX7_slow_10 : decode cX7_slow 10 = .ok (.invokestatic 103, 3) := by decide +kernel
theorem dX7_slow_13 : decode cX7_slow 13 = .ok (.ifCond .eq 28, 3) := by decide +kernel
theorem dX7_slow_16 : decode cX7_slow 16 = .ok (.iload_n 3, 1) := by decide +kernel
theorem dX7_slow_17 : decode cX7_slow 17 = .ok (.iload_n 2, 1) := by decide +kernel
theorem dX7_slow_18 : decode cX7_slow 18 = .ok (.bipush 23, 2) := by decide +kernel
theorem dX7_slow_20 : decode cX7_slow 20 = .ok (.invokestatic 103, 3) := by decide +kernel
theorem dX7_slow_23 : decode cX7_slow 23 = .ok (.ifCond .eq 18, 3) := by decide +kernel
theorem dX7_slow_26 : decode cX7_slow 26 = .ok (.iload 4, 2) := by decide +kernel
theorem dX7_slow_28 : decode cX7_slow 28 = .ok (.iconst 1, 1) := by decide +kernel
theorem dX7_slow_29 : decode cX7_slow 29 = .ok (.bipush 100, 2) := by decide +kernel
theorem dX7_slow_31 : decode cX7_slow 31 = .ok (.invokestatic 103, 3) := by decide +kernel
theorem dX7_slow_34 : decode cX7_slow 34 = .ok (.ifCond .eq 7, 3) := by decide +kernel
theorem dX7_slow_37 : decode cX7_slow 37 = .ok (.iconst 1, 1) := by decide +kernel
theorem dX7_slow_38 : decode cX7_slow 38 = .ok (.goto 4, 3) := by decide +kernel
theorem dX7_slow_41 : decode cX7_slow 41 = .ok (.iconst 0, 1) := by decide +kernel
theorem dX7_slow_42 : decode cX7_slow 42 = .ok (.aload_n 0, 1) := by decide +kernel
theorem dX7_slow_43 : decode cX7_slow 43 = .ok (.iload_n 1, 1) := by decide +kernel
theorem dX7_slow_44 : decode cX7_slow 44 = .ok (.invokevirtual 140, 3) := by decide +kernel
theorem dX7_slow_47 : decode cX7_slow 47 = .ok (.ifCond .eq 17, 3) := by decide +kernel
theorem dX7_slow_50 : decode cX7_slow 50 = .ok (.aload_n 0, 1) := by decide +kernel
theorem dX7_slow_51 : decode cX7_slow 51 = .ok (.getfield 32, 3) := by decide +kernel
theorem dX7_slow_54 : decode cX7_slow 54 = .ok (.iload_n 1, 1) := by decide +kernel
theorem dX7_slow_55 : decode cX7_slow 55 = .ok (.iaload, 1) := by decide +kernel
theorem dX7_slow_56 : decode cX7_slow 56 = .ok (.iconst 3, 1) := by decide +kernel
theorem dX7_slow_57 : decode cX7_slow 57 = .ok (.if_icmp .ge 7, 3) := by decide +kernel
theorem dX7_slow_60 : decode cX7_slow 60 = .ok (.iconst 1, 1) := by decide +kernel
theorem dX7_slow_61 : decode cX7_slow 61 = .ok (.goto 4, 3) := by decide +kernel
theorem dX7_slow_64 : decode cX7_slow 64 = .ok (.iconst 0, 1) := by decide +kernel
theorem dX7_slow_65 : decode cX7_slow 65 = .ok (.invokevirtual 132, 3) := by decide +kernel
theorem dX7_slow_68 : decode cX7_slow 68 = .ok (.ifCond .ne 5, 3) := by decide +kernel
theorem dX7_slow_71 : decode cX7_slow 71 = .ok (.iconst 0, 1) := by decide +kernel
theorem dX7_slow_72 : decode cX7_slow 72 = .ok (.ireturn, 1) := by decide +kernel
theorem dX7_slow_73 : decode cX7_slow 73 = .ok (.aload_n 0, 1) := by decide +kernel
theorem dX7_slow_74 : decode cX7_slow 74 = .ok (.getfield 35, 3) := by decide +kernel
theorem dX7_slow_77 : decode cX7_slow 77 = .ok (.iconst 3, 1) := by decide +kernel
theorem dX7_slow_78 : decode cX7_slow 78 = .ok (.iload_n 1, 1) := by decide +kernel
theorem dX7_slow_79 : decode cX7_slow 79 = .ok (.imul, 1) := by decide +kernel
theorem dX7_slow_80 : decode cX7_slow 80 = .ok (.aload_n 0, 1) := by decide +kernel
theorem dX7_slow_81 : decode cX7_slow 81 = .ok (.getfield 32, 3) := by decide +kernel
theorem dX7_slow_84 : decode cX7_slow 84 = .ok (.iload_n 1, 1) := by decide +kernel
theorem dX7_slow_85 : decode cX7_slow 85 = .ok (.iaload, 1) := by decide +kernel
theorem dX7_slow_86 : decode cX7_slow 86 = .ok (.iadd, 1) := by decide +kernel
theorem dX7_slow_87 : decode cX7_slow 87 = .ok (.iload_n 2, 1) := by decide +kernel
theorem dX7_slow_88 : decode cX7_slow 88 = .ok (.iastore, 1) := by decide +kernel
theorem dX7_slow_89 : decode cX7_slow 89 = .ok (.aload_n 0, 1) := by decide +kernel
theorem dX7_slow_90 : decode cX7_slow 90 = .ok (.getfield 38, 3) := by decide +kernel
theorem dX7_slow_93 : decode cX7_slow 93 = .ok (.iconst 3, 1) := by decide +kernel
theorem dX7_slow_94 : decode cX7_slow 94 = .ok (.iload_n 1, 1) := by decide +kernel
theorem dX7_slow_95 : decode cX7_slow 95 = .ok (.imul, 1) := by decide +kernel
theorem dX7_slow_96 : decode cX7_slow 96 = .ok (.aload_n 0, 1) := by decide +kernel
theorem dX7_slow_97 : decode cX7_slow 97 = .ok (.getfield 32, 3) := by decide +kernel
theorem dX7_slow_100 : decode cX7_slow 100 = .ok (.iload_n 1, 1) := by decide +kernel
theorem dX7_slow_101 : decode cX7_slow 101 = .ok (.iaload, 1) := by decide +kernel
theorem dX7_slow_102 : decode cX7_slow 102 = .ok (.iadd, 1) := by decide +kernel
theorem dX7_slow_103 : decode cX7_slow 103 = .ok (.iload_n 3, 1) := by decide +kernel
theorem dX7_slow_104 : decode cX7_slow 104 = .ok (.iastore, 1) := by decide +kernel
theorem dX7_slow_105 : decode cX7_slow 105 = .ok (.aload_n 0, 1) := by decide +kernel
theorem dX7_slow_106 : decode cX7_slow 106 = .ok (.getfield 41, 3) := by decide +kernel
theorem dX7_slow_109 : decode cX7_slow 109 = .ok (.iconst 3, 1) := by decide +kernel
theorem dX7_slow_110 : decode cX7_slow 110 = .ok (.iload_n 1, 1) := by decide +kernel
theorem dX7_slow_111 : decode cX7_slow 111 = .ok (.imul, 1) := by decide +kernel
theorem dX7_slow_112 : decode cX7_slow 112 = .ok (.aload_n 0, 1) := by decide +kernel
theorem dX7_slow_113 : decode cX7_slow 113 = .ok (.getfield 32, 3) := by decide +kernel
theorem dX7_slow_116 : decode cX7_slow 116 = .ok (.iload_n 1, 1) := by decide +kernel
theorem dX7_slow_117 : decode cX7_slow 117 = .ok (.iaload, 1) := by decide +kernel
theorem dX7_slow_118 : decode cX7_slow 118 = .ok (.iadd, 1) := by decide +kernel
theorem dX7_slow_119 : decode cX7_slow 119 = .ok (.iload 4, 2) := by decide +kernel
theorem dX7_slow_121 : decode cX7_slow 121 = .ok (.iastore, 1) := by decide +kernel
theorem dX7_slow_122 : decode cX7_slow 122 = .ok (.aload_n 0, 1) := by decide +kernel
theorem dX7_slow_123 : decode cX7_slow 123 = .ok (.getfield 32, 3) := by decide +kernel
theorem dX7_slow_126 : decode cX7_slow 126 = .ok (.iload_n 1, 1) := by decide +kernel
theorem dX7_slow_127 : decode cX7_slow 127 = .ok (.dup2, 1) := by decide +kernel
theorem dX7_slow_128 : decode cX7_slow 128 = .ok (.iaload, 1) := by decide +kernel
theorem dX7_slow_129 : decode cX7_slow 129 = .ok (.iconst 1, 1) := by decide +kernel
theorem dX7_slow_130 : decode cX7_slow 130 = .ok (.iadd, 1) := by decide +kernel
theorem dX7_slow_131 : decode cX7_slow 131 = .ok (.iastore, 1) := by decide +kernel
theorem dX7_slow_132 : decode cX7_slow 132 = .ok (.aload_n 0, 1) := by decide +kernel
theorem dX7_slow_133 : decode cX7_slow 133 = .ok (.invokevirtual 136, 3) := by decide +kernel
theorem dX7_slow_136 : decode cX7_slow 136 = .ok (.ireturn, 1) := by decide +kernel
set_option maxRecDepth 20000 in
theorem ggX7_close_X7_isPiece : GoodIn wsX7_close wsX7_isPiece := goodIn_r _ [6, 7, 8, 9, 5, 10, 59, 60, 61, 62, 63, 64, 65, 66, 67, 68, 69, 70, 71, 72, 73, 74, 75, 76, 77, 78, 79, 80, 81, 82, 83, 84, 85, 86, 87, 88] (by decide +kernel) (by decide +kernel)
set_option maxRecDepth 20000 in
theorem gX7_close_X7_isPiece : GoodIn wsX7_close (wsV RX7 140 RX7 yX7_isPiece wsX7_isPiece) := goodIn_app (goodIn_of _ (by decide +kernel)) ggX7_close_X7_isPiece
set_option maxRecDepth 20000 in
theorem ggX7_close_X7_goes : GoodIn wsX7_close wsX7_goes := goodIn_r _ [14, 15, 59, 60, 61, 62, 63, 64, 65, 66, 67, 68, 69, 70, 71, 72, 73, 74, 75, 76, 77, 78, 79, 80, 81, 82, 83, 84, 85, 86, 87, 88] (by decide +kernel) (by decide +kernel)
set_option maxRecDepth 20000 in
theorem gX7_close_X7_goes : GoodIn wsX7_close (wsV RX7 132 RX7 yX7_goes wsX7_goes) := goodIn_app (goodIn_of _ (by decide +kernel)) ggX7_close_X7_goes
set_option maxRecDepth 20000 in
theorem ggX7_close_X7_redo : GoodIn wsX7_close wsX7_redo := goodIn_r _ [19, 20, 21, 22, 23, 24, 25, 26, 27, 28, 29, 5, 30, 31, 7, 32, 33, 34, 35, 36, 37, 38, 1, 39, 40, 41, 42, 43, 44, 45, 46, 47, 48, 49, 50, 51, 52, 53, 54, 55, 56, 57, 58, 8, 9, 10, 59, 60, 61, 62, 63, 64, 65, 66, 67, 68, 69, 70, 71, 72, 73, 74, 75, 76, 77, 78, 79, 80, 81, 82, 83, 84, 85, 86, 87, 88] (by decide +kernel) (by decide +kernel)
set_option maxRecDepth 20000 in
theorem gX7_close_X7_redo : GoodIn wsX7_close (wsV RX7 136 RX7 yX7_redo wsX7_redo) := goodIn_app (goodIn_of _ (by decide +kernel)) ggX7_close_X7_redo
theorem dX7_close_0 : decode cX7_close 0 = .ok (.aload_n 0, 1) := by decide +kernel
theorem dX7_close_1 : decode cX7_close 1 = .ok (.aload_n 0, 1) := by decide +kernel
theorem dX7_close_2 : decode cX7_close 2 = .ok (.iload_n 1, 1) := by decide +kernel
theorem dX7_close_3 : decode cX7_close 3 = .ok (.invokevirtual 140, 3) := by decide +kernel
theorem dX7_close_6 : decode cX7_close 6 = .ok (.aload_n 0, 1) := by decide +kernel
theorem dX7_close_7 : decode cX7_close 7 = .ok (.iload_n 1, 1) := by decide +kernel
theorem dX7_close_8 : decode cX7_close 8 = .ok (.invokevirtual 140, 3) := by decide +kernel
theorem dX7_close_11 : decode cX7_close 11 = .ok (.ifCond .eq 17, 3) := by decide +kernel
theorem dX7_close_14 : decode cX7_close 14 = .ok (.aload_n 0, 1) := by decide +kernel
theorem dX7_close_15 : decode cX7_close 15 = .ok (.getfield 28, 3) := by decide +kernel
theorem dX7_close_18 : decode cX7_close 18 = .ok (.iload_n 1, 1) := by decide +kernel
theorem dX7_close_19 : decode cX7_close 19 = .ok (.baload, 1) := by decide +kernel
theorem dX7_close_20 : decode cX7_close 20 = .ok (.iload_n 2, 1) := by decide +kernel
theorem dX7_close_21 : decode cX7_close 21 = .ok (.if_icmp .eq 7, 3) := by decide +kernel
theorem dX7_close_24 : decode cX7_close 24 = .ok (.iconst 1, 1) := by decide +kernel
theorem dX7_close_25 : decode cX7_close 25 = .ok (.goto 4, 3) := by decide +kernel
theorem dX7_close_28 : decode cX7_close 28 = .ok (.iconst 0, 1) := by decide +kernel
theorem dX7_close_29 : decode cX7_close 29 = .ok (.iconst 1, 1) := by decide +kernel
theorem dX7_close_30 : decode cX7_close 30 = .ok (.invokevirtual 132, 3) := by decide +kernel
theorem dX7_close_33 : decode cX7_close 33 = .ok (.ifCond .ne 5, 3) := by decide +kernel
theorem dX7_close_36 : decode cX7_close 36 = .ok (.iconst 0, 1) := by decide +kernel
theorem dX7_close_37 : decode cX7_close 37 = .ok (.ireturn, 1) := by decide +kernel
theorem dX7_close_38 : decode cX7_close 38 = .ok (.aload_n 0, 1) := by decide +kernel
theorem dX7_close_39 : decode cX7_close 39 = .ok (.getfield 28, 3) := by decide +kernel
theorem dX7_close_42 : decode cX7_close 42 = .ok (.iload_n 1, 1) := by decide +kernel
theorem dX7_close_43 : decode cX7_close 43 = .ok (.iload_n 2, 1) := by decide +kernel
theorem dX7_close_44 : decode cX7_close 44 = .ok (.bastore, 1) := by decide +kernel
theorem dX7_close_45 : decode cX7_close 45 = .ok (.aload_n 0, 1) := by decide +kernel
theorem dX7_close_46 : decode cX7_close 46 = .ok (.invokevirtual 136, 3) := by decide +kernel
theorem dX7_close_49 : decode cX7_close 49 = .ok (.ireturn, 1) := by decide +kernel
set_option maxRecDepth 20000 in
theorem ggX7_speed_X7_isPiece : GoodIn wsX7_speed wsX7_isPiece := goodIn_r _ [6, 7, 8, 9, 5, 10, 59, 60, 61, 62, 63, 64, 65, 66, 67, 68, 69, 70, 71, 72, 73, 74, 75, 76, 77, 78, 79, 80, 81, 82, 83, 84, 85, 86, 87, 88] (by decide +kernel) (by decide +kernel)
set_option maxRecDepth 20000 in
theorem gX7_speed_X7_isPiece : GoodIn wsX7_speed (wsV RX7 140 RX7 yX7_isPiece wsX7_isPiece) := goodIn_app (goodIn_of _ (by decide +kernel)) ggX7_speed_X7_isPiece
set_option maxRecDepth 20000 in
theorem ggX7_speed_X7_in : GoodIn wsX7_speed wsX7_in := goodIn_r _ [10] (by decide +kernel) (by decide +kernel)
set_option maxRecDepth 20000 in
theorem gX7_speed_X7_in : GoodIn wsX7_speed (va_wsS RX7 103 yX7_in wsX7_in) := goodIn_app (goodIn_of _ (by decide +kernel)) ggX7_speed_X7_in
set_option maxRecDepth 20000 in
theorem ggX7_speed_X7_goes : GoodIn wsX7_speed wsX7_goes := goodIn_r _ [14, 15, 59, 60, 61, 62, 63, 64, 65, 66, 67, 68, 69, 70, 71, 72, 73, 74, 75, 76, 77, 78, 79, 80, 81, 82, 83, 84, 85, 86, 87, 88] (by decide +kernel) (by decide +kernel)
set_option maxRecDepth 20000 in
theorem gX7_speed_X7_goes : GoodIn wsX7_speed (wsV RX7 132 RX7 yX7_goes wsX7_goes) := goodIn_app (goodIn_of _ (by decide +kernel)) ggX7_speed_X7_goes
set_option maxRecDepth 20000 in
theorem ggX7_speed_X7_redo : GoodIn wsX7_speed wsX7_redo := goodIn_r _ [19, 20, 21, 22, 23, 24, 25, 26, 27, 28, 29, 5, 30, 31, 7, 32, 33, 34, 35, 36, 37, 38, 39, 1, 40, 41, 42, 43, 44, 45, 46, 47, 48, 49, 50, 51, 52, 53, 54, 55, 56, 57, 58, 8, 9, 10, 59, 60, 61, 62, 63, 64, 65, 66, 67, 68, 69, 70, 71, 72, 73, 74, 75, 76, 77, 78, 79, 80, 81, 82, 83, 84, 85, 86, 87, 88] (by decide +kernel) (by decide +kernel)
set_option maxRecDepth 20000 in
theorem gX7_speed_X7_redo : GoodIn wsX7_speed (wsV RX7 136 RX7 yX7_redo wsX7_redo) := goodIn_app (goodIn_of _ (by decide +kernel)) ggX7_speed_X7_redo
theorem dX7_speed_0 : decode cX7_speed 0 = .ok (.aload_n 0, 1) := by decide +kernel
theorem dX7_speed_1 : decode cX7_speed 1 = .ok (.aload_n 0, 1) := by decide +kernel
theorem dX7_speed_2 : decode cX7_speed 2 = .ok (.iload_n 1, 1) := by decide +kernel
theorem dX7_speed_3 : decode cX7_speed 3 = .ok (.invokevirtual 140, 3) := by decide +kernel
theorem dX7_speed_6 : decode cX7_speed 6 = .ok (.iload_n 2, 1) := by decide +kernel
theorem dX7_speed_7 : decode cX7_speed 7 = .ok (.iconst 0, 1) := by decide +kernel
theorem dX7_speed_8 : decode cX7_speed 8 = .ok (.sipush 200, 3) := by decide +kernel
theorem dX7_speed_11 : decode cX7_speed 11 = .ok (.invokestatic 103, 3) := by decide +kernel
theorem dX7_speed_14 : decode cX7_speed 14 = .ok (.iconst 1, 1) := by decide +kernel
theorem dX7_speed_15 : decode cX7_speed 15 = .ok (.invokevirtual 132, 3) := by decide +kernel
theorem dX7_speed_18 : decode cX7_speed 18 = .ok (.ifCond .ne 5, 3) := by decide +kernel
theorem dX7_speed_21 : decode cX7_speed 21 = .ok (.iconst 0, 1) := by decide +kernel
theorem dX7_speed_22 : decode cX7_speed 22 = .ok (.ireturn, 1) := by decide +kernel
theorem dX7_speed_23 : decode cX7_speed 23 = .ok (.aload_n 0, 1) := by decide +kernel
theorem dX7_speed_24 : decode cX7_speed 24 = .ok (.getfield 19, 3) := by decide +kernel
theorem dX7_speed_27 : decode cX7_speed 27 = .ok (.iload_n 1, 1) := by decide +kernel
theorem dX7_speed_28 : decode cX7_speed 28 = .ok (.iload_n 2, 1) := by decide +kernel
theorem dX7_speed_29 : decode cX7_speed 29 = .ok (.iastore, 1) := by decide +kernel
theorem dX7_speed_30 : decode cX7_speed 30 = .ok (.aload_n 0, 1) := by decide +kernel
theorem dX7_speed_31 : decode cX7_speed 31 = .ok (.invokevirtual 136, 3) := by decide +kernel
theorem dX7_speed_34 : decode cX7_speed 34 = .ok (.ireturn, 1) := by decide +kernel
set_option maxRecDepth 20000 in
theorem ggX7_unit_X7_isNode : GoodIn wsX7_unit wsX7_isNode := goodIn_r _ [11, 12, 13, 14, 10, 15, 21, 22, 23, 24, 25, 26, 27, 28, 29, 30, 31, 32, 33, 34, 35, 36, 37, 38, 39, 40, 41, 42, 43, 44, 45, 46, 47, 48, 49, 50] (by decide +kernel) (by decide +kernel)
set_option maxRecDepth 20000 in
theorem gX7_unit_X7_isNode : GoodIn wsX7_unit (wsV RX7 127 RX7 yX7_isNode wsX7_isNode) := goodIn_app (goodIn_of _ (by decide +kernel)) ggX7_unit_X7_isNode
set_option maxRecDepth 20000 in
theorem ggX7_unit_X7_in : GoodIn wsX7_unit wsX7_in := goodIn_r _ [15] (by decide +kernel) (by decide +kernel)
set_option maxRecDepth 20000 in
theorem gX7_unit_X7_in : GoodIn wsX7_unit (va_wsS RX7 103 yX7_in wsX7_in) := goodIn_app (goodIn_of _ (by decide +kernel)) ggX7_unit_X7_in
set_option maxRecDepth 20000 in
theorem ggX7_unit_X7_goes : GoodIn wsX7_unit wsX7_goes := goodIn_r _ [19, 20, 21, 22, 23, 24, 25, 26, 27, 28, 29, 30, 31, 32, 33, 34, 35, 36, 37, 38, 39, 40, 41, 42, 43, 44, 45, 46, 47, 48, 49, 50] (by decide +kernel) (by decide +kernel)
set_option maxRecDepth 20000 in
theorem gX7_unit_X7_goes : GoodIn wsX7_unit (wsV RX7 132 RX7 yX7_goes wsX7_goes) := goodIn_app (goodIn_of _ (by decide +kernel)) ggX7_unit_X7_goes
theorem dX7_unit_0 : decode cX7_unit 0 = .ok (.aload_n 0, 1) := by decide +kernel
theorem dX7_unit_1 : decode cX7_unit 1 = .ok (.aload_n 0, 1) := by decide +kernel
theorem dX7_unit_2 : decode cX7_unit 2 = .ok (.iload_n 1, 1) := by decide +kernel
theorem dX7_unit_3 : decode cX7_unit 3 = .ok (.invokevirtual 127, 3) := by decide +kernel
theorem dX7_unit_6 : decode cX7_unit 6 = .ok (.iload_n 2, 1) := by decide +kernel
theorem dX7_unit_7 : decode cX7_unit 7 = .ok (.iconst 0, 1) := by decide +kernel
theorem dX7_unit_8 : decode cX7_unit 8 = .ok (.sipush 1000, 3) := by decide +kernel
theorem dX7_unit_11 : decode cX7_unit 11 = .ok (.invokestatic 103, 3) := by decide +kernel
theorem dX7_unit_14 : decode cX7_unit 14 = .ok (.ifCond .eq 40, 3) := by decide +kernel
theorem dX7_unit_17 : decode cX7_unit 17 = .ok (.iload_n 3, 1) := by decide +kernel
theorem dX7_unit_18 : decode cX7_unit 18 = .ok (.iconst 0, 1) := by decide +kernel
theorem dX7_unit_19 : decode cX7_unit 19 = .ok (.sipush 1000, 3) := by decide +kernel
theorem dX7_unit_22 : decode cX7_unit 22 = .ok (.invokestatic 103, 3) := by decide +kernel
theorem dX7_unit_25 : decode cX7_unit 25 = .ok (.ifCond .eq 29, 3) := by decide +kernel
theorem dX7_unit_28 : decode cX7_unit 28 = .ok (.iload 4, 2) := by decide +kernel
theorem dX7_unit_30 : decode cX7_unit 30 = .ok (.iconst 1, 1) := by decide +kernel
theorem dX7_unit_31 : decode cX7_unit 31 = .ok (.bipush 20, 2) := by decide +kernel
theorem dX7_unit_33 : decode cX7_unit 33 = .ok (.invokestatic 103, 3) := by decide +kernel
theorem dX7_unit_36 : decode cX7_unit 36 = .ok (.ifCond .eq 18, 3) := by decide +kernel
theorem dX7_unit_39 : decode cX7_unit 39 = .ok (.iload 5, 2) := by decide +kernel
theorem dX7_unit_41 : decode cX7_unit 41 = .ok (.iconst 1, 1) := by decide +kernel
theorem dX7_unit_42 : decode cX7_unit 42 = .ok (.bipush 20, 2) := by decide +kernel
theorem dX7_unit_44 : decode cX7_unit 44 = .ok (.invokestatic 103, 3) := by decide +kernel
theorem dX7_unit_47 : decode cX7_unit 47 = .ok (.ifCond .eq 7, 3) := by decide +kernel
theorem dX7_unit_50 : decode cX7_unit 50 = .ok (.iconst 1, 1) := by decide +kernel
theorem dX7_unit_51 : decode cX7_unit 51 = .ok (.goto 4, 3) := by decide +kernel
theorem dX7_unit_54 : decode cX7_unit 54 = .ok (.iconst 0, 1) := by decide +kernel
theorem dX7_unit_55 : decode cX7_unit 55 = .ok (.aload_n 0, 1) := by decide +kernel
theorem dX7_unit_56 : decode cX7_unit 56 = .ok (.getfield 97, 3) := by decide +kernel
theorem dX7_unit_59 : decode cX7_unit 59 = .ok (.bipush 12, 2) := by decide +kernel
theorem dX7_unit_61 : decode cX7_unit 61 = .ok (.if_icmp .ge 7, 3) := by decide +kernel
theorem dX7_unit_64 : decode cX7_unit 64 = .ok (.iconst 1, 1) := by decide +kernel
theorem dX7_unit_65 : decode cX7_unit 65 = .ok (.goto 4, 3) := by decide +kernel
theorem dX7_unit_68 : decode cX7_unit 68 = .ok (.iconst 0, 1) := by decide +kernel
theorem dX7_unit_69 : decode cX7_unit 69 = .ok (.invokevirtual 132, 3) := by decide +kernel
theorem dX7_unit_72 : decode cX7_unit 72 = .ok (.ifCond .ne 5, 3) := by decide +kernel
theorem dX7_unit_75 : decode cX7_unit 75 = .ok (.iconst 0, 1) := by decide +kernel
theorem dX7_unit_76 : decode cX7_unit 76 = .ok (.ireturn, 1) := by decide +kernel
theorem dX7_unit_77 : decode cX7_unit 77 = .ok (.aload_n 0, 1) := by decide +kernel
theorem dX7_unit_78 : decode cX7_unit 78 = .ok (.getfield 44, 3) := by decide +kernel
theorem dX7_unit_81 : decode cX7_unit 81 = .ok (.aload_n 0, 1) := by decide +kernel
theorem dX7_unit_82 : decode cX7_unit 82 = .ok (.getfield 97, 3) := by decide +kernel
theorem dX7_unit_85 : decode cX7_unit 85 = .ok (.iload_n 1, 1) := by decide +kernel
theorem dX7_unit_86 : decode cX7_unit 86 = .ok (.iastore, 1) := by decide +kernel
theorem dX7_unit_87 : decode cX7_unit 87 = .ok (.aload_n 0, 1) := by decide +kernel
theorem dX7_unit_88 : decode cX7_unit 88 = .ok (.getfield 47, 3) := by decide +kernel
theorem dX7_unit_91 : decode cX7_unit 91 = .ok (.aload_n 0, 1) := by decide +kernel
theorem dX7_unit_92 : decode cX7_unit 92 = .ok (.getfield 97, 3) := by decide +kernel
theorem dX7_unit_95 : decode cX7_unit 95 = .ok (.iload_n 2, 1) := by decide +kernel
theorem dX7_unit_96 : decode cX7_unit 96 = .ok (.iastore, 1) := by decide +kernel
theorem dX7_unit_97 : decode cX7_unit 97 = .ok (.aload_n 0, 1) := by decide +kernel
theorem dX7_unit_98 : decode cX7_unit 98 = .ok (.getfield 50, 3) := by decide +kernel
theorem dX7_unit_101 : decode cX7_unit 101 = .ok (.aload_n 0, 1) := by decide +kernel
theorem dX7_unit_102 : decode cX7_unit 102 = .ok (.getfield 97, 3) := by decide +kernel
theorem dX7_unit_105 : decode cX7_unit 105 = .ok (.iload_n 3, 1) := by decide +kernel
theorem dX7_unit_106 : decode cX7_unit 106 = .ok (.iastore, 1) := by decide +kernel
theorem dX7_unit_107 : decode cX7_unit 107 = .ok (.aload_n 0, 1) := by decide +kernel
theorem dX7_unit_108 : decode cX7_unit 108 = .ok (.getfield 53, 3) := by decide +kernel
theorem dX7_unit_111 : decode cX7_unit 111 = .ok (.aload_n 0, 1) := by decide +kernel
theorem dX7_unit_112 : decode cX7_unit 112 = .ok (.getfield 97, 3) := by decide +kernel
theorem dX7_unit_115 : decode cX7_unit 115 = .ok (.iload 4, 2) := by decide +kernel
theorem dX7_unit_117 : decode cX7_unit 117 = .ok (.iastore, 1) := by decide +kernel
theorem dX7_unit_118 : decode cX7_unit 118 = .ok (.aload_n 0, 1) := by decide +kernel
theorem dX7_unit_119 : decode cX7_unit 119 = .ok (.getfield 56, 3) := by decide +kernel
theorem dX7_unit_122 : decode cX7_unit 122 = .ok (.aload_n 0, 1) := by decide +kernel
theorem dX7_unit_123 : decode cX7_unit 123 = .ok (.getfield 97, 3) := by decide +kernel
theorem dX7_unit_126 : decode cX7_unit 126 = .ok (.iload 5, 2) := by decide +kernel
theorem dX7_unit_128 : decode cX7_unit 128 = .ok (.iastore, 1) := by decide +kernel
theorem dX7_unit_129 : decode cX7_unit 129 = .ok (.aload_n 0, 1) := by decide +kernel
theorem dX7_unit_130 : decode cX7_unit 130 = .ok (.dup, 1) := by decide +kernel
theorem dX7_unit_131 : decode cX7_unit 131 = .ok (.getfield 97, 3) := by decide +kernel
theorem dX7_unit_134 : decode cX7_unit 134 = .ok (.iconst 1, 1) := by decide +kernel
theorem dX7_unit_135 : decode cX7_unit 135 = .ok (.iadd, 1) := by decide +kernel
theorem dX7_unit_136 : decode cX7_unit 136 = .ok (.putfield 97, 3) := by decide +kernel
theorem dX7_unit_139 : decode cX7_unit 139 = .ok (.aload_n 0, 1) := by decide +kernel
theorem dX7_unit_140 : decode cX7_unit 140 = .ok (.getfield 97, 3) := by decide +kernel
theorem dX7_unit_143 : decode cX7_unit 143 = .ok (.iconst 1, 1) := by decide +kernel
theorem dX7_unit_144 : decode cX7_unit 144 = .ok (.isub, 1) := by decide +kernel
theorem dX7_unit_145 : decode cX7_unit 145 = .ok (.ireturn, 1) := by decide +kernel
set_option maxRecDepth 20000 in
theorem ggX7_stand_X7_isUnit : GoodIn wsX7_stand wsX7_isUnit := goodIn_r _ [6, 7, 8, 9, 5, 10, 21, 22, 23, 24, 25, 26, 27, 28, 29, 30, 31, 32, 33, 34, 35, 36, 37, 38, 39, 40, 41, 42, 43, 44, 45, 46, 47, 48, 49, 50] (by decide +kernel) (by decide +kernel)
set_option maxRecDepth 20000 in
theorem gX7_stand_X7_isUnit : GoodIn wsX7_stand (wsV RX7 143 RX7 yX7_isUnit wsX7_isUnit) := goodIn_app (goodIn_of _ (by decide +kernel)) ggX7_stand_X7_isUnit
set_option maxRecDepth 20000 in
theorem ggX7_stand_X7_isNode : GoodIn wsX7_stand wsX7_isNode := goodIn_r _ [14, 15, 8, 9, 5, 10, 21, 22, 23, 24, 25, 26, 27, 28, 29, 30, 31, 32, 33, 34, 35, 36, 37, 38, 39, 40, 41, 42, 43, 44, 45, 46, 47, 48, 49, 50] (by decide +kernel) (by decide +kernel)
set_option maxRecDepth 20000 in
theorem gX7_stand_X7_isNode : GoodIn wsX7_stand (wsV RX7 127 RX7 yX7_isNode wsX7_isNode) := goodIn_app (goodIn_of _ (by decide +kernel)) ggX7_stand_X7_isNode
set_option maxRecDepth 20000 in
theorem ggX7_stand_X7_goes : GoodIn wsX7_stand wsX7_goes := goodIn_r _ [19, 20, 21, 22, 23, 24, 25, 26, 27, 28, 29, 30, 31, 32, 33, 34, 35, 36, 37, 38, 39, 40, 41, 42, 43, 44, 45, 46, 47, 48, 49, 50] (by decide +kernel) (by decide +kernel)
set_option maxRecDepth 20000 in
theorem gX7_stand_X7_goes : GoodIn wsX7_stand (wsV RX7 132 RX7 yX7_goes wsX7_goes) := goodIn_app (goodIn_of _ (by decide +kernel)) ggX7_stand_X7_goes
theorem dX7_stand_0 : decode cX7_stand 0 = .ok (.aload_n 0, 1) := by decide +kernel
theorem dX7_stand_1 : decode cX7_stand 1 = .ok (.aload_n 0, 1) := by decide +kernel
theorem dX7_stand_2 : decode cX7_stand 2 = .ok (.iload_n 1, 1) := by decide +kernel
theorem dX7_stand_3 : decode cX7_stand 3 = .ok (.invokevirtual 143, 3) := by decide +kernel
theorem dX7_stand_6 : decode cX7_stand 6 = .ok (.ifCond .eq 15, 3) := by decide +kernel
theorem dX7_stand_9 : decode cX7_stand 9 = .ok (.aload_n 0, 1) := by decide +kernel
theorem dX7_stand_10 : decode cX7_stand 10 = .ok (.iload_n 2, 1) := by decide +kernel
theorem dX7_stand_11 : decode cX7_stand 11 = .ok (.invokevirtual 127, 3) := by decide +kernel
theorem dX7_stand_14 : decode cX7_stand 14 = .ok (.ifCond .eq 7, 3) := by decide +kernel
theorem dX7_stand_17 : decode cX7_stand 17 = .ok (.iconst 1, 1) := by decide +kernel
theorem dX7_stand_18 : decode cX7_stand 18 = .ok (.goto 4, 3) := by decide +kernel
theorem dX7_stand_21 : decode cX7_stand 21 = .ok (.iconst 0, 1) := by decide +kernel
theorem dX7_stand_22 : decode cX7_stand 22 = .ok (.iconst 1, 1) := by decide +kernel
theorem dX7_stand_23 : decode cX7_stand 23 = .ok (.iconst 1, 1) := by decide +kernel
theorem dX7_stand_24 : decode cX7_stand 24 = .ok (.invokevirtual 132, 3) := by decide +kernel
theorem dX7_stand_27 : decode cX7_stand 27 = .ok (.ifCond .eq 10, 3) := by decide +kernel
theorem dX7_stand_30 : decode cX7_stand 30 = .ok (.aload_n 0, 1) := by decide +kernel
theorem dX7_stand_31 : decode cX7_stand 31 = .ok (.getfield 44, 3) := by decide +kernel
theorem dX7_stand_34 : decode cX7_stand 34 = .ok (.iload_n 1, 1) := by decide +kernel
theorem dX7_stand_35 : decode cX7_stand 35 = .ok (.iload_n 2, 1) := by decide +kernel
theorem dX7_stand_36 : decode cX7_stand 36 = .ok (.iastore, 1) := by decide +kernel
theorem dX7_stand_37 : decode cX7_stand 37 = .ok (.return_, 1) := by decide +kernel
set_option maxRecDepth 20000 in
theorem ggX7_seconds_X7_isUnit : GoodIn wsX7_seconds wsX7_isUnit := goodIn_r _ [7, 8, 9, 10, 6, 11, 37, 38, 39, 40, 41, 42, 43, 44, 45, 46, 47, 48, 49, 50, 51, 52, 53, 54, 55, 56, 57, 58, 59, 60, 61, 62, 63, 64, 65, 66] (by decide +kernel) (by decide +kernel)
set_option maxRecDepth 20000 in
theorem gX7_seconds_X7_isUnit : GoodIn wsX7_seconds (wsV RX7 143 RX7 yX7_isUnit wsX7_isUnit) := goodIn_app (goodIn_of _ (by decide +kernel)) ggX7_seconds_X7_isUnit
set_option maxRecDepth 20000 in
theorem ggX7_seconds_X7_isPiece : GoodIn wsX7_seconds wsX7_isPiece := goodIn_r _ [15, 16, 9, 10, 6, 11, 37, 38, 39, 40, 41, 42, 43, 44, 45, 46, 47, 48, 49, 50, 51, 52, 53, 54, 55, 56, 57, 58, 59, 60, 61, 62, 63, 64, 65, 66] (by decide +kernel) (by decide +kernel)
set_option maxRecDepth 20000 in
theorem gX7_seconds_X7_isPiece : GoodIn wsX7_seconds (wsV RX7 140 RX7 yX7_isPiece wsX7_isPiece) := goodIn_app (goodIn_of _ (by decide +kernel)) ggX7_seconds_X7_isPiece
set_option maxRecDepth 20000 in
theorem ggX7_seconds_X7_goes : GoodIn wsX7_seconds wsX7_goes := goodIn_r _ [20, 21, 37, 38, 39, 40, 41, 42, 43, 44, 45, 46, 47, 48, 49, 50, 51, 52, 53, 54, 55, 56, 57, 58, 59, 60, 61, 62, 63, 64, 65, 66] (by decide +kernel) (by decide +kernel)
set_option maxRecDepth 20000 in
theorem gX7_seconds_X7_goes : GoodIn wsX7_seconds (wsV RX7 132 RX7 yX7_goes wsX7_goes) := goodIn_app (goodIn_of _ (by decide +kernel)) ggX7_seconds_X7_goes
set_option maxRecDepth 20000 in
theorem ggX7_seconds_X7_takes : GoodIn wsX7_seconds wsX7_takes := goodIn_r _ [25, 1, 26, 27, 28, 29, 30, 31, 6, 32, 33, 34, 35, 36, 9, 10, 11, 37, 38, 39, 40, 41, 42, 43, 44, 45, 46, 47, 48, 49, 50, 51, 52, 53, 54, 55, 56, 57, 58, 59, 60, 61, 62, 63, 64, 65, 66] (by decide +kernel) (by decide +kernel)
set_option maxRecDepth 20000 in
theorem gX7_seconds_X7_takes : GoodIn wsX7_seconds (wsV RX7 119 RX7 yX7_takes wsX7_takes) := goodIn_app (goodIn_of _ (by decide +kernel)) ggX7_seconds_X7_takes
theorem dX7_seconds_0 : decode cX7_seconds 0 = .ok (.aload_n 0, 1) := by decide +kernel
theorem dX7_seconds_1 : decode cX7_seconds 1 = .ok (.aload_n 0, 1) := by decide +kernel
theorem dX7_seconds_2 : decode cX7_seconds 2 = .ok (.iload_n 1, 1) := by decide +kernel
theorem dX7_seconds_3 : decode cX7_seconds 3 = .ok (.invokevirtual 143, 3) := by decide +kernel
theorem dX7_seconds_6 : decode cX7_seconds 6 = .ok (.ifCond .eq 15, 3) := by decide +kernel
theorem dX7_seconds_9 : decode cX7_seconds 9 = .ok (.aload_n 0, 1) := by decide +kernel
theorem dX7_seconds_10 : decode cX7_seconds 10 = .ok (.iload_n 2, 1) := by decide +kernel
theorem dX7_seconds_11 : decode cX7_seconds 11 = .ok (.invokevirtual 140, 3) := by decide +kernel
theorem dX7_seconds_14 : decode cX7_seconds 14 = .ok (.ifCond .eq 7, 3) := by decide +kernel
theorem dX7_seconds_17 : decode cX7_seconds 17 = .ok (.iconst 1, 1) := by decide +kernel
theorem dX7_seconds_18 : decode cX7_seconds 18 = .ok (.goto 4, 3) := by decide +kernel
theorem dX7_seconds_21 : decode cX7_seconds 21 = .ok (.iconst 0, 1) := by decide +kernel
theorem dX7_seconds_22 : decode cX7_seconds 22 = .ok (.iload_n 3, 1) := by decide +kernel
theorem dX7_seconds_23 : decode cX7_seconds 23 = .ok (.ifCond .lt 7, 3) := by decide +kernel
theorem dX7_seconds_26 : decode cX7_seconds 26 = .ok (.iconst 1, 1) := by decide +kernel
theorem dX7_seconds_27 : decode cX7_seconds 27 = .ok (.goto 4, 3) := by decide +kernel
theorem dX7_seconds_30 : decode cX7_seconds 30 = .ok (.iconst 0, 1) := by decide +kernel
theorem dX7_seconds_31 : decode cX7_seconds 31 = .ok (.aload_n 0, 1) := by decide +kernel
theorem dX7_seconds_32 : decode cX7_seconds 32 = .ok (.iload_n 2, 1) := by decide +kernel
theorem dX7_seconds_33 : decode cX7_seconds 33 = .ok (.invokevirtual 140, 3) := by decide +kernel
theorem dX7_seconds_36 : decode cX7_seconds 36 = .ok (.ifCond .eq 16, 3) := by decide +kernel
theorem dX7_seconds_39 : decode cX7_seconds 39 = .ok (.aload_n 0, 1) := by decide +kernel
theorem dX7_seconds_40 : decode cX7_seconds 40 = .ok (.getfield 19, 3) := by decide +kernel
theorem dX7_seconds_43 : decode cX7_seconds 43 = .ok (.iload_n 2, 1) := by decide +kernel
theorem dX7_seconds_44 : decode cX7_seconds 44 = .ok (.iaload, 1) := by decide +kernel
theorem dX7_seconds_45 : decode cX7_seconds 45 = .ok (.ifCond .le 7, 3) := by decide +kernel
theorem dX7_seconds_48 : decode cX7_seconds 48 = .ok (.iconst 1, 1) := by decide +kernel
theorem dX7_seconds_49 : decode cX7_seconds 49 = .ok (.goto 4, 3) := by decide +kernel
theorem dX7_seconds_52 : decode cX7_seconds 52 = .ok (.iconst 0, 1) := by decide +kernel
theorem dX7_seconds_53 : decode cX7_seconds 53 = .ok (.invokevirtual 132, 3) := by decide +kernel
theorem dX7_seconds_56 : decode cX7_seconds 56 = .ok (.ifCond .ne 5, 3) := by decide +kernel
theorem dX7_seconds_59 : decode cX7_seconds 59 = .ok (.lconst 0, 1) := by decide +kernel
theorem dX7_seconds_60 : decode cX7_seconds 60 = .ok (.lreturn, 1) := by decide +kernel
theorem dX7_seconds_61 : decode cX7_seconds 61 = .ok (.aload_n 0, 1) := by decide +kernel
theorem dX7_seconds_62 : decode cX7_seconds 62 = .ok (.iload_n 1, 1) := by decide +kernel
theorem dX7_seconds_63 : decode cX7_seconds 63 = .ok (.iload_n 2, 1) := by decide +kernel
theorem dX7_seconds_64 : decode cX7_seconds 64 = .ok (.aload_n 0, 1) := by decide +kernel
theorem dX7_seconds_65 : decode cX7_seconds 65 = .ok (.getfield 16, 3) := by decide +kernel
theorem dX7_seconds_68 : decode cX7_seconds 68 = .ok (.iload_n 2, 1) := by decide +kernel
theorem dX7_seconds_69 : decode cX7_seconds 69 = .ok (.iaload, 1) := by decide +kernel
theorem dX7_seconds_70 : decode cX7_seconds 70 = .ok (.iload_n 3, 1) := by decide +kernel
theorem dX7_seconds_71 : decode cX7_seconds 71 = .ok (.invokevirtual 119, 3) := by decide +kernel
theorem dX7_seconds_74 : decode cX7_seconds 74 = .ok (.lreturn, 1) := by decide +kernel
set_option maxRecDepth 20000 in
theorem ggX7_lastPiece_X7_mayGo : GoodIn wsX7_lastPiece wsX7_mayGo := goodIn_r _ [11, 12, 13, 14, 15, 16, 17, 36, 37, 38, 39, 40, 41, 42, 43, 44, 45, 46, 47, 48, 49, 50, 51, 52, 53, 54, 55, 56, 57, 58, 59, 60, 61, 62, 63, 64, 65] (by decide +kernel) (by decide +kernel)
set_option maxRecDepth 20000 in
theorem gX7_lastPiece_X7_mayGo : GoodIn wsX7_lastPiece (wsV RX7 115 RX7 yX7_mayGo wsX7_mayGo) := goodIn_app (goodIn_of _ (by decide +kernel)) ggX7_lastPiece_X7_mayGo
set_option maxRecDepth 20000 in
theorem ggX7_lastPiece_X7_takes : GoodIn wsX7_lastPiece wsX7_takes := goodIn_r _ [21, 13, 22, 23, 24, 25, 26, 27, 10, 28, 29, 30, 31, 32, 33, 34, 35, 36, 37, 38, 39, 40, 41, 42, 43, 44, 45, 46, 47, 48, 49, 50, 51, 52, 53, 54, 55, 56, 57, 58, 59, 60, 61, 62, 63, 64, 65] (by decide +kernel) (by decide +kernel)
set_option maxRecDepth 20000 in
theorem gX7_lastPiece_X7_takes : GoodIn wsX7_lastPiece (wsV RX7 119 RX7 yX7_takes wsX7_takes) := goodIn_app (goodIn_of _ (by decide +kernel)) ggX7_lastPiece_X7_takes
theorem dX7_lastPiece_0 : decode cX7_lastPiece 0 = .ok (.iconst 0, 1) := by decide +kernel
theorem dX7_lastPiece_1 : decode cX7_lastPiece 1 = .ok (.istore 4, 2) := by decide +kernel
theorem dX7_lastPiece_3 : decode cX7_lastPiece 3 = .ok (.iload 4, 2) := by decide +kernel
theorem dX7_lastPiece_5 : decode cX7_lastPiece 5 = .ok (.aload_n 0, 1) := by decide +kernel
theorem dX7_lastPiece_6 : decode cX7_lastPiece 6 = .ok (.getfield 94, 3) := by decide +kernel
theorem dX7_lastPiece_9 : decode cX7_lastPiece 9 = .ok (.if_icmp .ge 124, 3) := by decide +kernel
theorem dX7_lastPiece_12 : decode cX7_lastPiece 12 = .ok (.aload_n 0, 1) := by decide +kernel
theorem dX7_lastPiece_13 : decode cX7_lastPiece 13 = .ok (.iload_n 1, 1) := by decide +kernel
theorem dX7_lastPiece_14 : decode cX7_lastPiece 14 = .ok (.iload 4, 2) := by decide +kernel
theorem dX7_lastPiece_16 : decode cX7_lastPiece 16 = .ok (.invokevirtual 115, 3) := by decide +kernel
theorem dX7_lastPiece_19 : decode cX7_lastPiece 19 = .ok (.ifCond .eq 108, 3) := by decide +kernel
theorem dX7_lastPiece_22 : decode cX7_lastPiece 22 = .ok (.aload_n 0, 1) := by decide +kernel
theorem dX7_lastPiece_23 : decode cX7_lastPiece 23 = .ok (.getfield 7, 3) := by decide +kernel
theorem dX7_lastPiece_26 : decode cX7_lastPiece 26 = .ok (.iload 4, 2) := by decide +kernel
theorem dX7_lastPiece_28 : decode cX7_lastPiece 28 = .ok (.iaload, 1) := by decide +kernel
theorem dX7_lastPiece_29 : decode cX7_lastPiece 29 = .ok (.iload_n 2, 1) := by decide +kernel
theorem dX7_lastPiece_30 : decode cX7_lastPiece 30 = .ok (.if_icmp .eq 17, 3) := by decide +kernel
theorem dX7_lastPiece_33 : decode cX7_lastPiece 33 = .ok (.aload_n 0, 1) := by decide +kernel
theorem dX7_lastPiece_34 : decode cX7_lastPiece 34 = .ok (.getfield 13, 3) := by decide +kernel
theorem dX7_lastPiece_37 : decode cX7_lastPiece 37 = .ok (.iload 4, 2) := by decide +kernel
theorem dX7_lastPiece_39 : decode cX7_lastPiece 39 = .ok (.iaload, 1) := by decide +kernel
theorem dX7_lastPiece_40 : decode cX7_lastPiece 40 = .ok (.iload_n 2, 1) := by decide +kernel
theorem dX7_lastPiece_41 : decode cX7_lastPiece 41 = .ok (.if_icmp .eq 6, 3) := by decide +kernel
theorem dX7_lastPiece_44 : decode cX7_lastPiece 44 = .ok (.goto 83, 3) := by decide +kernel
theorem dX7_lastPiece_47 : decode cX7_lastPiece 47 = .ok (.aload_n 0, 1) := by decide +kernel
theorem dX7_lastPiece_48 : decode cX7_lastPiece 48 = .ok (.getfield 7, 3) := by decide +kernel
theorem dX7_lastPiece_51 : decode cX7_lastPiece 51 = .ok (.iload 4, 2) := by decide +kernel
theorem dX7_lastPiece_53 : decode cX7_lastPiece 53 = .ok (.iaload, 1) := by decide +kernel
theorem dX7_lastPiece_54 : decode cX7_lastPiece 54 = .ok (.iload_n 2, 1) := by decide +kernel
theorem dX7_lastPiece_55 : decode cX7_lastPiece 55 = .ok (.if_icmp .ne 13, 3) := by decide +kernel
theorem dX7_lastPiece_58 : decode cX7_lastPiece 58 = .ok (.aload_n 0, 1) := by decide +kernel
theorem dX7_lastPiece_59 : decode cX7_lastPiece 59 = .ok (.getfield 13, 3) := by decide +kernel
theorem dX7_lastPiece_62 : decode cX7_lastPiece 62 = .ok (.iload 4, 2) := by decide +kernel
theorem dX7_lastPiece_64 : decode cX7_lastPiece 64 = .ok (.iaload, 1) := by decide +kernel
theorem dX7_lastPiece_65 : decode cX7_lastPiece 65 = .ok (.goto 10, 3) := by decide +kernel
theorem dX7_lastPiece_68 : decode cX7_lastPiece 68 = .ok (.aload_n 0, 1) := by decide +kernel
theorem dX7_lastPiece_69 : decode cX7_lastPiece 69 = .ok (.getfield 7, 3) := by decide +kernel
theorem dX7_lastPiece_72 : decode cX7_lastPiece 72 = .ok (.iload 4, 2) := by decide +kernel
theorem dX7_lastPiece_74 : decode cX7_lastPiece 74 = .ok (.iaload, 1) := by decide +kernel
theorem dX7_lastPiece_75 : decode cX7_lastPiece 75 = .ok (.istore 5, 2) := by decide +kernel
theorem dX7_lastPiece_77 : decode cX7_lastPiece 77 = .ok (.aload_n 0, 1) := by decide +kernel
theorem dX7_lastPiece_78 : decode cX7_lastPiece 78 = .ok (.getfield 75, 3) := by decide +kernel
theorem dX7_lastPiece_81 : decode cX7_lastPiece 81 = .ok (.iload 5, 2) := by decide +kernel
theorem dX7_lastPiece_83 : decode cX7_lastPiece 83 = .ok (.laload, 1) := by decide +kernel
theorem dX7_lastPiece_84 : decode cX7_lastPiece 84 = .ok (.ldc2_w 113, 3) := by decide +kernel
theorem dX7_lastPiece_87 : decode cX7_lastPiece 87 = .ok (.lcmp, 1) := by decide +kernel
theorem dX7_lastPiece_88 : decode cX7_lastPiece 88 = .ok (.ifCond .ge 39, 3) := by decide +kernel
theorem dX7_lastPiece_91 : decode cX7_lastPiece 91 = .ok (.aload_n 0, 1) := by decide +kernel
theorem dX7_lastPiece_92 : decode cX7_lastPiece 92 = .ok (.getfield 75, 3) := by decide +kernel
theorem dX7_lastPiece_95 : decode cX7_lastPiece 95 = .ok (.iload 5, 2) := by decide +kernel
theorem dX7_lastPiece_97 : decode cX7_lastPiece 97 = .ok (.laload, 1) := by decide +kernel
theorem dX7_lastPiece_98 : decode cX7_lastPiece 98 = .ok (.aload_n 0, 1) := by decide +kernel
theorem dX7_lastPiece_99 : decode cX7_lastPiece 99 = .ok (.iload_n 1, 1) := by decide +kernel
theorem dX7_lastPiece_100 : decode cX7_lastPiece 100 = .ok (.iload 4, 2) := by decide +kernel
theorem dX7_lastPiece_102 : decode cX7_lastPiece 102 = .ok (.aload_n 0, 1) := by decide +kernel
theorem dX7_lastPiece_103 : decode cX7_lastPiece 103 = .ok (.getfield 16, 3) := by decide +kernel
theorem dX7_lastPiece_106 : decode cX7_lastPiece 106 = .ok (.iload 4, 2) := by decide +kernel
theorem dX7_lastPiece_108 : decode cX7_lastPiece 108 = .ok (.iaload, 1) := by decide +kernel
theorem dX7_lastPiece_109 : decode cX7_lastPiece 109 = .ok (.iload_n 3, 1) := by decide +kernel
theorem dX7_lastPiece_110 : decode cX7_lastPiece 110 = .ok (.invokevirtual 119, 3) := by decide +kernel
theorem dX7_lastPiece_113 : decode cX7_lastPiece 113 = .ok (.ladd, 1) := by decide +kernel
theorem dX7_lastPiece_114 : decode cX7_lastPiece 114 = .ok (.aload_n 0, 1) := by decide +kernel
theorem dX7_lastPiece_115 : decode cX7_lastPiece 115 = .ok (.getfield 75, 3) := by decide +kernel
theorem dX7_lastPiece_118 : decode cX7_lastPiece 118 = .ok (.iload_n 2, 1) := by decide +kernel
theorem dX7_lastPiece_119 : decode cX7_lastPiece 119 = .ok (.laload, 1) := by decide +kernel
theorem dX7_lastPiece_120 : decode cX7_lastPiece 120 = .ok (.lcmp, 1) := by decide +kernel
theorem dX7_lastPiece_121 : decode cX7_lastPiece 121 = .ok (.ifCond .ne 6, 3) := by decide +kernel
theorem dX7_lastPiece_124 : decode cX7_lastPiece 124 = .ok (.iload 4, 2) := by decide +kernel
theorem dX7_lastPiece_126 : decode cX7_lastPiece 126 = .ok (.ireturn, 1) := by decide +kernel
theorem dX7_lastPiece_127 : decode cX7_lastPiece 127 = .ok (.iinc 4 1, 3) := by decide +kernel
theorem dX7_lastPiece_130 : decode cX7_lastPiece 130 = .ok (.goto (-127), 3) := by decide +kernel
theorem dX7_lastPiece_133 : decode cX7_lastPiece 133 = .ok (.iconst (-1), 1) := by decide +kernel
theorem dX7_lastPiece_134 : decode cX7_lastPiece 134 = .ok (.ireturn, 1) := by decide +kernel
set_option maxRecDepth 20000 in
theorem ggX7_way_X7_isUnit : GoodIn wsX7_way wsX7_isUnit := goodIn_r _ [12, 13, 14, 15, 11, 16, 62, 63, 64, 65, 66, 67, 68, 69, 70, 71, 72, 73, 74, 75, 76, 77, 78, 79, 80, 81, 82, 83, 84, 85, 86, 87, 88, 89, 90, 91] (by decide +kernel) (by decide +kernel)
set_option maxRecDepth 20000 in
theorem gX7_way_X7_isUnit : GoodIn wsX7_way (wsV RX7 143 RX7 yX7_isUnit wsX7_isUnit) := goodIn_app (goodIn_of _ (by decide +kernel)) ggX7_way_X7_isUnit
set_option maxRecDepth 20000 in
theorem ggX7_way_X7_isNode : GoodIn wsX7_way wsX7_isNode := goodIn_r _ [20, 21, 14, 15, 11, 16, 62, 63, 64, 65, 66, 67, 68, 69, 70, 71, 72, 73, 74, 75, 76, 77, 78, 79, 80, 81, 82, 83, 84, 85, 86, 87, 88, 89, 90, 91] (by decide +kernel) (by decide +kernel)
set_option maxRecDepth 20000 in
theorem gX7_way_X7_isNode : GoodIn wsX7_way (wsV RX7 127 RX7 yX7_isNode wsX7_isNode) := goodIn_app (goodIn_of _ (by decide +kernel)) ggX7_way_X7_isNode
set_option maxRecDepth 20000 in
theorem ggX7_way_X7_goes : GoodIn wsX7_way wsX7_goes := goodIn_r _ [25, 26, 62, 63, 64, 65, 66, 67, 68, 69, 70, 71, 72, 73, 74, 75, 76, 77, 78, 79, 80, 81, 82, 83, 84, 85, 86, 87, 88, 89, 90, 91] (by decide +kernel) (by decide +kernel)
set_option maxRecDepth 20000 in
theorem gX7_way_X7_goes : GoodIn wsX7_way (wsV RX7 132 RX7 yX7_goes wsX7_goes) := goodIn_app (goodIn_of _ (by decide +kernel)) ggX7_way_X7_goes
set_option maxRecDepth 20000 in
theorem ggX7_way_X7_spread : GoodIn wsX7_way wsX7_spread := goodIn_r _ [30, 21, 2, 3, 31, 32, 6, 7, 33, 34, 35, 11, 36, 37, 38, 39, 40, 41, 42, 43, 44, 45, 46, 47, 48, 49, 50, 51, 52, 53, 54, 55, 56, 57, 14, 15, 16, 62, 63, 64, 65, 66, 67, 68, 69, 70, 71, 72, 73, 74, 75, 76, 77, 78, 79, 80, 81, 82, 83, 84, 85, 86, 87, 88, 89, 90, 91] (by decide +kernel) (by decide +kernel)
set_option maxRecDepth 20000 in
theorem gX7_way_X7_spread : GoodIn wsX7_way (wsV RX7 123 RX7 yX7_spread wsX7_spread) := goodIn_app (goodIn_of _ (by decide +kernel)) ggX7_way_X7_spread
set_option maxRecDepth 20000 in
theorem ggX7_way_X7_lastPiece : GoodIn wsX7_way wsX7_lastPiece := goodIn_r _ [61, 31, 6, 7, 2, 3, 32, 33, 34, 35, 11, 36, 37, 38, 39, 40, 41, 42, 43, 44, 45, 46, 47, 48, 49, 50, 51, 52, 53, 54, 55, 56, 57, 14, 15, 16, 62, 63, 64, 65, 66, 67, 68, 69, 70, 71, 72, 73, 74, 75, 76, 77, 78, 79, 80, 81, 82, 83, 84, 85, 86, 87, 88, 89, 90, 91] (by decide +kernel) (by decide +kernel)
set_option maxRecDepth 20000 in
theorem gX7_way_X7_lastPiece : GoodIn wsX7_way (wsV RX7 148 RX7 yX7_lastPiece wsX7_lastPiece) := goodIn_app (goodIn_of _ (by decide +kernel)) ggX7_way_X7_lastPiece
theorem dX7_way_0 : decode cX7_way 0 = .ok (.aload_n 0, 1) := by decide +kernel
theorem dX7_way_1 : decode cX7_way 1 = .ok (.aload_n 0, 1) := by decide +kernel
theorem dX7_way_2 : decode cX7_way 2 = .ok (.iload_n 1, 1) := by decide +kernel
theorem dX7_way_3 : decode cX7_way 3 = .ok (.invokevirtual 143, 3) := by decide +kernel
theorem dX7_way_6 : decode cX7_way 6 = .ok (.ifCond .eq 23, 3) := by decide +kernel
theorem dX7_way_9 : decode cX7_way 9 = .ok (.aload_n 0, 1) := by decide +kernel
theorem dX7_way_10 : decode cX7_way 10 = .ok (.iload_n 2, 1) := by decide +kernel
theorem dX7_way_11 : decode cX7_way 11 = .ok (.invokevirtual 127, 3) := by decide +kernel
theorem dX7_way_14 : decode cX7_way 14 = .ok (.ifCond .eq 15, 3) := by decide +kernel
theorem dX7_way_17 : decode cX7_way 17 = .ok (.aload_n 0, 1) := by decide +kernel
theorem dX7_way_18 : decode cX7_way 18 = .ok (.iload_n 3, 1) := by decide +kernel
theorem dX7_way_19 : decode cX7_way 19 = .ok (.invokevirtual 127, 3) := by decide +kernel
theorem dX7_way_22 : decode cX7_way 22 = .ok (.ifCond .eq 7, 3) := by decide +kernel
theorem dX7_way_25 : decode cX7_way 25 = .ok (.iconst 1, 1) := by decide +kernel
theorem dX7_way_26 : decode cX7_way 26 = .ok (.goto 4, 3) := by decide +kernel
theorem dX7_way_29 : decode cX7_way 29 = .ok (.iconst 0, 1) := by decide +kernel
theorem dX7_way_30 : decode cX7_way 30 = .ok (.iload 4, 2) := by decide +kernel
theorem dX7_way_32 : decode cX7_way 32 = .ok (.ifCond .lt 7, 3) := by decide +kernel
theorem dX7_way_35 : decode cX7_way 35 = .ok (.iconst 1, 1) := by decide +kernel
theorem dX7_way_36 : decode cX7_way 36 = .ok (.goto 4, 3) := by decide +kernel
theorem dX7_way_39 : decode cX7_way 39 = .ok (.iconst 0, 1) := by decide +kernel
theorem dX7_way_40 : decode cX7_way 40 = .ok (.iconst 1, 1) := by decide +kernel
theorem dX7_way_41 : decode cX7_way 41 = .ok (.invokevirtual 132, 3) := by decide +kernel
theorem dX7_way_44 : decode cX7_way 44 = .ok (.ifCond .ne 5, 3) := by decide +kernel
theorem dX7_way_47 : decode cX7_way 47 = .ok (.lconst 0, 1) := by decide +kernel
theorem dX7_way_48 : decode cX7_way 48 = .ok (.lreturn, 1) := by decide +kernel
theorem dX7_way_49 : decode cX7_way 49 = .ok (.aload_n 0, 1) := by decide +kernel
theorem dX7_way_50 : decode cX7_way 50 = .ok (.iload_n 1, 1) := by decide +kernel
theorem dX7_way_51 : decode cX7_way 51 = .ok (.iload_n 2, 1) := by decide +kernel
theorem dX7_way_52 : decode cX7_way 52 = .ok (.iload 4, 2) := by decide +kernel
theorem dX7_way_54 : decode cX7_way 54 = .ok (.invokevirtual 123, 3) := by decide +kernel
theorem dX7_way_57 : decode cX7_way 57 = .ok (.aload_n 0, 1) := by decide +kernel
theorem dX7_way_58 : decode cX7_way 58 = .ok (.iconst 0, 1) := by decide +kernel
theorem dX7_way_59 : decode cX7_way 59 = .ok (.putfield 100, 3) := by decide +kernel
theorem dX7_way_62 : decode cX7_way 62 = .ok (.aload_n 0, 1) := by decide +kernel
theorem dX7_way_63 : decode cX7_way 63 = .ok (.getfield 75, 3) := by decide +kernel
theorem dX7_way_66 : decode cX7_way 66 = .ok (.iload_n 3, 1) := by decide +kernel
theorem dX7_way_67 : decode cX7_way 67 = .ok (.laload, 1) := by decide +kernel
theorem dX7_way_68 : decode cX7_way 68 = .ok (.ldc2_w 113, 3) := by decide +kernel
theorem dX7_way_71 : decode cX7_way 71 = .ok (.lcmp, 1) := by decide +kernel
theorem dX7_way_72 : decode cX7_way 72 = .ok (.ifCond .lt 7, 3) := by decide +kernel
theorem dX7_way_75 : decode cX7_way 75 = .ok (.ldc2_w 146, 3) := by decide +kernel
theorem dX7_way_78 : decode cX7_way 78 = .ok (.lreturn, 1) := by decide +kernel
theorem dX7_way_79 : decode cX7_way 79 = .ok (.iload_n 3, 1) := by decide +kernel
theorem dX7_way_80 : decode cX7_way 80 = .ok (.istore 5, 2) := by decide +kernel
theorem dX7_way_82 : decode cX7_way 82 = .ok (.iload 5, 2) := by decide +kernel
theorem dX7_way_84 : decode cX7_way 84 = .ok (.iload_n 2, 1) := by decide +kernel
theorem dX7_way_85 : decode cX7_way 85 = .ok (.if_icmp .eq 86, 3) := by decide +kernel
theorem dX7_way_88 : decode cX7_way 88 = .ok (.aload_n 0, 1) := by decide +kernel
theorem dX7_way_89 : decode cX7_way 89 = .ok (.getfield 84, 3) := by decide +kernel
theorem dX7_way_92 : decode cX7_way 92 = .ok (.aload_n 0, 1) := by decide +kernel
theorem dX7_way_93 : decode cX7_way 93 = .ok (.getfield 100, 3) := by decide +kernel
theorem dX7_way_96 : decode cX7_way 96 = .ok (.aload_n 0, 1) := by decide +kernel
theorem dX7_way_97 : decode cX7_way 97 = .ok (.iload_n 1, 1) := by decide +kernel
theorem dX7_way_98 : decode cX7_way 98 = .ok (.iload 5, 2) := by decide +kernel
theorem dX7_way_100 : decode cX7_way 100 = .ok (.iload 4, 2) := by decide +kernel
theorem dX7_way_102 : decode cX7_way 102 = .ok (.invokevirtual 148, 3) := by decide +kernel
theorem dX7_way_105 : decode cX7_way 105 = .ok (.iastore, 1) := by decide +kernel
theorem dX7_way_106 : decode cX7_way 106 = .ok (.aload_n 0, 1) := by decide +kernel
theorem dX7_way_107 : decode cX7_way 107 = .ok (.getfield 7, 3) := by decide +kernel
theorem dX7_way_110 : decode cX7_way 110 = .ok (.aload_n 0, 1) := by decide +kernel
theorem dX7_way_111 : decode cX7_way 111 = .ok (.getfield 84, 3) := by decide +kernel
theorem dX7_way_114 : decode cX7_way 114 = .ok (.aload_n 0, 1) := by decide +kernel
theorem dX7_way_115 : decode cX7_way 115 = .ok (.getfield 100, 3) := by decide +kernel
theorem dX7_way_118 : decode cX7_way 118 = .ok (.iaload, 1) := by decide +kernel
theorem dX7_way_119 : decode cX7_way 119 = .ok (.iaload, 1) := by decide +kernel
theorem dX7_way_120 : decode cX7_way 120 = .ok (.iload 5, 2) := by decide +kernel
theorem dX7_way_122 : decode cX7_way 122 = .ok (.if_icmp .ne 20, 3) := by decide +kernel
theorem dX7_way_125 : decode cX7_way 125 = .ok (.aload_n 0, 1) := by decide +kernel
theorem dX7_way_126 : decode cX7_way 126 = .ok (.getfield 13, 3) := by decide +kernel
theorem dX7_way_129 : decode cX7_way 129 = .ok (.aload_n 0, 1) := by decide +kernel
theorem dX7_way_130 : decode cX7_way 130 = .ok (.getfield 84, 3) := by decide +kernel
theorem dX7_way_133 : decode cX7_way 133 = .ok (.aload_n 0, 1) := by decide +kernel
theorem dX7_way_134 : decode cX7_way 134 = .ok (.getfield 100, 3) := by decide +kernel
theorem dX7_way_137 : decode cX7_way 137 = .ok (.iaload, 1) := by decide +kernel
theorem dX7_way_138 : decode cX7_way 138 = .ok (.iaload, 1) := by decide +kernel
theorem dX7_way_139 : decode cX7_way 139 = .ok (.goto 17, 3) := by decide +kernel
theorem dX7_way_142 : decode cX7_way 142 = .ok (.aload_n 0, 1) := by decide +kernel
theorem dX7_way_143 : decode cX7_way 143 = .ok (.getfield 7, 3) := by decide +kernel
theorem dX7_way_146 : decode cX7_way 146 = .ok (.aload_n 0, 1) := by decide +kernel
theorem dX7_way_147 : decode cX7_way 147 = .ok (.getfield 84, 3) := by decide +kernel
theorem dX7_way_150 : decode cX7_way 150 = .ok (.aload_n 0, 1) := by decide +kernel
theorem dX7_way_151 : decode cX7_way 151 = .ok (.getfield 100, 3) := by decide +kernel
theorem dX7_way_154 : decode cX7_way 154 = .ok (.iaload, 1) := by decide +kernel
theorem dX7_way_155 : decode cX7_way 155 = .ok (.iaload, 1) := by decide +kernel
theorem dX7_way_156 : decode cX7_way 156 = .ok (.istore 5, 2) := by decide +kernel
theorem dX7_way_158 : decode cX7_way 158 = .ok (.aload_n 0, 1) := by decide +kernel
theorem dX7_way_159 : decode cX7_way 159 = .ok (.dup, 1) := by decide +kernel
theorem dX7_way_160 : decode cX7_way 160 = .ok (.getfield 100, 3) := by decide +kernel
theorem dX7_way_163 : decode cX7_way 163 = .ok (.iconst 1, 1) := by decide +kernel
theorem dX7_way_164 : decode cX7_way 164 = .ok (.iadd, 1) := by decide +kernel
theorem dX7_way_165 : decode cX7_way 165 = .ok (.putfield 100, 3) := by decide +kernel
theorem dX7_way_168 : decode cX7_way 168 = .ok (.goto (-86), 3) := by decide +kernel
theorem dX7_way_171 : decode cX7_way 171 = .ok (.iconst 0, 1) := by decide +kernel
theorem dX7_way_172 : decode cX7_way 172 = .ok (.istore 6, 2) := by decide +kernel
theorem dX7_way_174 : decode cX7_way 174 = .ok (.iload 6, 2) := by decide +kernel
theorem dX7_way_176 : decode cX7_way 176 = .ok (.aload_n 0, 1) := by decide +kernel
theorem dX7_way_177 : decode cX7_way 177 = .ok (.getfield 100, 3) := by decide +kernel
theorem dX7_way_180 : decode cX7_way 180 = .ok (.iconst 2, 1) := by decide +kernel
theorem dX7_way_181 : decode cX7_way 181 = .ok (.idiv, 1) := by decide +kernel
theorem dX7_way_182 : decode cX7_way 182 = .ok (.if_icmp .ge 55, 3) := by decide +kernel
theorem dX7_way_185 : decode cX7_way 185 = .ok (.aload_n 0, 1) := by decide +kernel
theorem dX7_way_186 : decode cX7_way 186 = .ok (.getfield 84, 3) := by decide +kernel
theorem dX7_way_189 : decode cX7_way 189 = .ok (.iload 6, 2) := by decide +kernel
theorem dX7_way_191 : decode cX7_way 191 = .ok (.iaload, 1) := by decide +kernel
theorem dX7_way_192 : decode cX7_way 192 = .ok (.istore 7, 2) := by decide +kernel
theorem dX7_way_194 : decode cX7_way 194 = .ok (.aload_n 0, 1) := by decide +kernel
theorem dX7_way_195 : decode cX7_way 195 = .ok (.getfield 84, 3) := by decide +kernel
theorem dX7_way_198 : decode cX7_way 198 = .ok (.iload 6, 2) := by decide +kernel
theorem dX7_way_200 : decode cX7_way 200 = .ok (.aload_n 0, 1) := by decide +kernel
theorem dX7_way_201 : decode cX7_way 201 = .ok (.getfield 84, 3) := by decide +kernel
theorem dX7_way_204 : decode cX7_way 204 = .ok (.aload_n 0, 1) := by decide +kernel
theorem dX7_way_205 : decode cX7_way 205 = .ok (.getfield 100, 3) := by decide +kernel
theorem dX7_way_208 : decode cX7_way 208 = .ok (.iconst 1, 1) := by decide +kernel
theorem dX7_way_209 : decode cX7_way 209 = .ok (.isub, 1) := by decide +kernel
theorem dX7_way_210 : decode cX7_way 210 = .ok (.iload 6, 2) := by decide +kernel
theorem dX7_way_212 : decode cX7_way 212 = .ok (.isub, 1) := by decide +kernel
theorem dX7_way_213 : decode cX7_way 213 = .ok (.iaload, 1) := by decide +kernel
theorem dX7_way_214 : decode cX7_way 214 = .ok (.iastore, 1) := by decide +kernel
theorem dX7_way_215 : decode cX7_way 215 = .ok (.aload_n 0, 1) := by decide +kernel
theorem dX7_way_216 : decode cX7_way 216 = .ok (.getfield 84, 3) := by decide +kernel
theorem dX7_way_219 : decode cX7_way 219 = .ok (.aload_n 0, 1) := by decide +kernel
theorem dX7_way_220 : decode cX7_way 220 = .ok (.getfield 100, 3) := by decide +kernel
theorem dX7_way_223 : decode cX7_way 223 = .ok (.iconst 1, 1) := by decide +kernel
theorem dX7_way_224 : decode cX7_way 224 = .ok (.isub, 1) := by decide +kernel
theorem dX7_way_225 : decode cX7_way 225 = .ok (.iload 6, 2) := by decide +kernel
theorem dX7_way_227 : decode cX7_way 227 = .ok (.isub, 1) := by decide +kernel
theorem dX7_way_228 : decode cX7_way 228 = .ok (.iload 7, 2) := by decide +kernel
theorem dX7_way_230 : decode cX7_way 230 = .ok (.iastore, 1) := by decide +kernel
theorem dX7_way_231 : decode cX7_way 231 = .ok (.iinc 6 1, 3) := by decide +kernel
theorem dX7_way_234 : decode cX7_way 234 = .ok (.goto (-60), 3) := by decide +kernel
theorem dX7_way_237 : decode cX7_way 237 = .ok (.aload_n 0, 1) := by decide +kernel
theorem dX7_way_238 : decode cX7_way 238 = .ok (.getfield 75, 3) := by decide +kernel
theorem dX7_way_241 : decode cX7_way 241 = .ok (.iload_n 3, 1) := by decide +kernel
theorem dX7_way_242 : decode cX7_way 242 = .ok (.laload, 1) := by decide +kernel
theorem dX7_way_243 : decode cX7_way 243 = .ok (.lreturn, 1) := by decide +kernel
set_option maxRecDepth 20000 in
theorem ggX7_step_X7_goes : GoodIn wsX7_step wsX7_goes := goodIn_r _ [7, 8, 9, 10, 11, 12, 13, 14, 15, 16, 17, 18, 19, 20, 21, 22, 23, 24, 25, 26, 27, 28, 29, 30, 31, 32, 33, 34, 35, 36, 37, 38] (by decide +kernel) (by decide +kernel)
set_option maxRecDepth 20000 in
theorem gX7_step_X7_goes : GoodIn wsX7_step (wsV RX7 132 RX7 yX7_goes wsX7_goes) := goodIn_app (goodIn_of _ (by decide +kernel)) ggX7_step_X7_goes
theorem dX7_step_0 : decode cX7_step 0 = .ok (.aload_n 0, 1) := by decide +kernel
theorem dX7_step_1 : decode cX7_step 1 = .ok (.iload_n 1, 1) := by decide +kernel
theorem dX7_step_2 : decode cX7_step 2 = .ok (.ifCond .lt 7, 3) := by decide +kernel
theorem dX7_step_5 : decode cX7_step 5 = .ok (.iconst 1, 1) := by decide +kernel
theorem dX7_step_6 : decode cX7_step 6 = .ok (.goto 4, 3) := by decide +kernel
theorem dX7_step_9 : decode cX7_step 9 = .ok (.iconst 0, 1) := by decide +kernel
theorem dX7_step_10 : decode cX7_step 10 = .ok (.iconst 1, 1) := by decide +kernel
theorem dX7_step_11 : decode cX7_step 11 = .ok (.iconst 1, 1) := by decide +kernel
theorem dX7_step_12 : decode cX7_step 12 = .ok (.invokevirtual 132, 3) := by decide +kernel
theorem dX7_step_15 : decode cX7_step 15 = .ok (.ifCond .ne 5, 3) := by decide +kernel
theorem dX7_step_18 : decode cX7_step 18 = .ok (.iconst 0, 1) := by decide +kernel
theorem dX7_step_19 : decode cX7_step 19 = .ok (.ireturn, 1) := by decide +kernel
theorem dX7_step_20 : decode cX7_step 20 = .ok (.iload_n 1, 1) := by decide +kernel
theorem dX7_step_21 : decode cX7_step 21 = .ok (.aload_n 0, 1) := by decide +kernel
theorem dX7_step_22 : decode cX7_step 22 = .ok (.getfield 100, 3) := by decide +kernel
theorem dX7_step_25 : decode cX7_step 25 = .ok (.if_icmp .ge 12, 3) := by decide +kernel
theorem dX7_step_28 : decode cX7_step 28 = .ok (.aload_n 0, 1) := by decide +kernel
theorem dX7_step_29 : decode cX7_step 29 = .ok (.getfield 84, 3) := by decide +kernel
theorem dX7_step_32 : decode cX7_step 32 = .ok (.iload_n 1, 1) := by decide +kernel
theorem dX7_step_33 : decode cX7_step 33 = .ok (.iaload, 1) := by decide +kernel
theorem dX7_step_34 : decode cX7_step 34 = .ok (.goto 4, 3) := by decide +kernel
theorem dX7_step_37 : decode cX7_step 37 = .ok (.iconst (-1), 1) := by decide +kernel
theorem dX7_step_38 : decode cX7_step 38 = .ok (.ireturn, 1) := by decide +kernel
theorem dX7_put_0 : decode cX7_put 0 = .ok (.lload_n 2, 1) := by decide +kernel
theorem dX7_put_1 : decode cX7_put 1 = .ok (.lstore 4, 2) := by decide +kernel
theorem dX7_put_3 : decode cX7_put 3 = .ok (.iconst 0, 1) := by decide +kernel
theorem dX7_put_4 : decode cX7_put 4 = .ok (.istore 6, 2) := by decide +kernel
theorem dX7_put_6 : decode cX7_put 6 = .ok (.iload 6, 2) := by decide +kernel
theorem dX7_put_8 : decode cX7_put 8 = .ok (.bipush 6, 2) := by decide +kernel
theorem dX7_put_10 : decode cX7_put 10 = .ok (.if_icmp .ge 62, 3) := by decide +kernel
theorem dX7_put_13 : decode cX7_put 13 = .ok (.aload_n 0, 1) := by decide +kernel
theorem dX7_put_14 : decode cX7_put 14 = .ok (.getfield 81, 3) := by decide +kernel
theorem dX7_put_17 : decode cX7_put 17 = .ok (.iload_n 1, 1) := by decide +kernel
theorem dX7_put_18 : decode cX7_put 18 = .ok (.bipush 6, 2) := by decide +kernel
theorem dX7_put_20 : decode cX7_put 20 = .ok (.imul, 1) := by decide +kernel
theorem dX7_put_21 : decode cX7_put 21 = .ok (.iload 6, 2) := by decide +kernel
theorem dX7_put_23 : decode cX7_put 23 = .ok (.iadd, 1) := by decide +kernel
theorem dX7_put_24 : decode cX7_put 24 = .ok (.laload, 1) := by decide +kernel
theorem dX7_put_25 : decode cX7_put 25 = .ok (.lload 4, 2) := by decide +kernel
theorem dX7_put_27 : decode cX7_put 27 = .ok (.lcmp, 1) := by decide +kernel
theorem dX7_put_28 : decode cX7_put 28 = .ok (.ifCond .gt 6, 3) := by decide +kernel
theorem dX7_put_31 : decode cX7_put 31 = .ok (.goto 35, 3) := by decide +kernel
theorem dX7_put_34 : decode cX7_put 34 = .ok (.aload_n 0, 1) := by decide +kernel
theorem dX7_put_35 : decode cX7_put 35 = .ok (.getfield 81, 3) := by decide +kernel
theorem dX7_put_38 : decode cX7_put 38 = .ok (.iload_n 1, 1) := by decide +kernel
theorem dX7_put_39 : decode cX7_put 39 = .ok (.bipush 6, 2) := by decide +kernel
theorem dX7_put_41 : decode cX7_put 41 = .ok (.imul, 1) := by decide +kernel
theorem dX7_put_42 : decode cX7_put 42 = .ok (.iload 6, 2) := by decide +kernel
theorem dX7_put_44 : decode cX7_put 44 = .ok (.iadd, 1) := by decide +kernel
theorem dX7_put_45 : decode cX7_put 45 = .ok (.laload, 1) := by decide +kernel
theorem dX7_put_46 : decode cX7_put 46 = .ok (.lstore 7, 2) := by decide +kernel
theorem dX7_put_48 : decode cX7_put 48 = .ok (.aload_n 0, 1) := by decide +kernel
theorem dX7_put_49 : decode cX7_put 49 = .ok (.getfield 81, 3) := by decide +kernel
theorem dX7_put_52 : decode cX7_put 52 = .ok (.iload_n 1, 1) := by decide +kernel
theorem dX7_put_53 : decode cX7_put 53 = .ok (.bipush 6, 2) := by decide +kernel
theorem dX7_put_55 : decode cX7_put 55 = .ok (.imul, 1) := by decide +kernel
theorem dX7_put_56 : decode cX7_put 56 = .ok (.iload 6, 2) := by decide +kernel
theorem dX7_put_58 : decode cX7_put 58 = .ok (.iadd, 1) := by decide +kernel
theorem dX7_put_59 : decode cX7_put 59 = .ok (.lload 4, 2) := by decide +kernel
theorem dX7_put_61 : decode cX7_put 61 = .ok (.lastore, 1) := by decide +kernel
theorem dX7_put_62 : decode cX7_put 62 = .ok (.lload 7, 2) := by decide +kernel
theorem dX7_put_64 : decode cX7_put 64 = .ok (.lstore 4, 2) := by decide +kernel
theorem dX7_put_66 : decode cX7_put 66 = .ok (.iinc 6 1, 3) := by decide +kernel
theorem dX7_put_69 : decode cX7_put 69 = .ok (.goto (-63), 3) := by decide +kernel
theorem dX7_put_72 : decode cX7_put 72 = .ok (.return_, 1) := by decide +kernel
set_option maxRecDepth 20000 in
theorem ggX7_again_X7_put : GoodIn wsX7_again wsX7_put := goodIn_r _ [13, 2, 42, 43, 44, 45, 46, 47, 48, 49, 50, 51, 52, 53, 54, 55, 56, 57, 58, 59, 60, 61, 62, 63, 64, 65, 66, 67, 68, 69, 70, 71] (by decide +kernel) (by decide +kernel)
set_option maxRecDepth 20000 in
theorem gX7_again_X7_put : GoodIn wsX7_again (wsV RX7 152 RX7 yX7_put wsX7_put) := goodIn_app (goodIn_of _ (by decide +kernel)) ggX7_again_X7_put
set_option maxRecDepth 20000 in
theorem ggX7_again_X7_mayGo : GoodIn wsX7_again wsX7_mayGo := goodIn_r _ [17, 18, 19, 20, 21, 22, 23, 42, 43, 44, 45, 46, 47, 48, 49, 50, 51, 52, 53, 54, 55, 56, 57, 58, 59, 60, 61, 62, 63, 64, 65, 66, 67, 68, 69, 70, 71] (by decide +kernel) (by decide +kernel)
set_option maxRecDepth 20000 in
theorem gX7_again_X7_mayGo : GoodIn wsX7_again (wsV RX7 115 RX7 yX7_mayGo wsX7_mayGo) := goodIn_app (goodIn_of _ (by decide +kernel)) ggX7_again_X7_mayGo
set_option maxRecDepth 20000 in
theorem ggX7_again_X7_takes : GoodIn wsX7_again wsX7_takes := goodIn_r _ [27, 19, 28, 29, 30, 31, 32, 33, 12, 34, 35, 36, 37, 38, 39, 40, 41, 42, 43, 44, 45, 46, 47, 48, 49, 50, 51, 52, 53, 54, 55, 56, 57, 58, 59, 60, 61, 62, 63, 64, 65, 66, 67, 68, 69, 70, 71] (by decide +kernel) (by decide +kernel)
set_option maxRecDepth 20000 in
theorem gX7_again_X7_takes : GoodIn wsX7_again (wsV RX7 119 RX7 yX7_takes wsX7_takes) := goodIn_app (goodIn_of _ (by decide +kernel)) ggX7_again_X7_takes
theorem dX7_again_0 : decode cX7_again 0 = .ok (.iconst 0, 1) := by decide +kernel
theorem dX7_again_1 : decode cX7_again 1 = .ok (.istore 4, 2) := by decide +kernel
theorem dX7_again_3 : decode cX7_again 3 = .ok (.iload 4, 2) := by decide +kernel
theorem dX7_again_5 : decode cX7_again 5 = .ok (.aload_n 0, 1) := by decide +kernel
theorem dX7_again_6 : decode cX7_again 6 = .ok (.getfield 91, 3) := by decide +kernel
theorem dX7_again_9 : decode cX7_again 9 = .ok (.bipush 6, 2) := by decide +kernel
theorem dX7_again_11 : decode cX7_again 11 = .ok (.imul, 1) := by decide +kernel
theorem dX7_again_12 : decode cX7_again 12 = .ok (.if_icmp .ge 19, 3) := by decide +kernel
theorem dX7_again_15 : decode cX7_again 15 = .ok (.aload_n 0, 1) := by decide +kernel
theorem dX7_again_16 : decode cX7_again 16 = .ok (.getfield 81, 3) := by decide +kernel
theorem dX7_again_19 : decode cX7_again 19 = .ok (.iload 4, 2) := by decide +kernel
theorem dX7_again_21 : decode cX7_again 21 = .ok (.ldc2_w 113, 3) := by decide +kernel
theorem dX7_again_24 : decode cX7_again 24 = .ok (.lastore, 1) := by decide +kernel
theorem dX7_again_25 : decode cX7_again 25 = .ok (.iinc 4 1, 3) := by decide +kernel
theorem dX7_again_28 : decode cX7_again 28 = .ok (.goto (-25), 3) := by decide +kernel
theorem dX7_again_31 : decode cX7_again 31 = .ok (.aload_n 0, 1) := by decide +kernel
theorem dX7_again_32 : decode cX7_again 32 = .ok (.iload_n 2, 1) := by decide +kernel
theorem dX7_again_33 : decode cX7_again 33 = .ok (.lconst 0, 1) := by decide +kernel
theorem dX7_again_34 : decode cX7_again 34 = .ok (.invokevirtual 152, 3) := by decide +kernel
theorem dX7_again_37 : decode cX7_again 37 = .ok (.iconst 0, 1) := by decide +kernel
theorem dX7_again_38 : decode cX7_again 38 = .ok (.istore 4, 2) := by decide +kernel
theorem dX7_again_40 : decode cX7_again 40 = .ok (.iload 4, 2) := by decide +kernel
theorem dX7_again_42 : decode cX7_again 42 = .ok (.aload_n 0, 1) := by decide +kernel
theorem dX7_again_43 : decode cX7_again 43 = .ok (.getfield 94, 3) := by decide +kernel
theorem dX7_again_46 : decode cX7_again 46 = .ok (.if_icmp .ge 169, 3) := by decide +kernel
theorem dX7_again_49 : decode cX7_again 49 = .ok (.aload_n 0, 1) := by decide +kernel
theorem dX7_again_50 : decode cX7_again 50 = .ok (.iload_n 1, 1) := by decide +kernel
theorem dX7_again_51 : decode cX7_again 51 = .ok (.iload 4, 2) := by decide +kernel
theorem dX7_again_53 : decode cX7_again 53 = .ok (.invokevirtual 115, 3) := by decide +kernel
theorem dX7_again_56 : decode cX7_again 56 = .ok (.ifCond .ne 6, 3) := by decide +kernel
theorem dX7_again_59 : decode cX7_again 59 = .ok (.goto 150, 3) := by decide +kernel
theorem dX7_again_62 : decode cX7_again 62 = .ok (.aload_n 0, 1) := by decide +kernel
theorem dX7_again_63 : decode cX7_again 63 = .ok (.iload_n 1, 1) := by decide +kernel
theorem dX7_again_64 : decode cX7_again 64 = .ok (.iload 4, 2) := by decide +kernel
theorem dX7_again_66 : decode cX7_again 66 = .ok (.aload_n 0, 1) := by decide +kernel
theorem dX7_again_67 : decode cX7_again 67 = .ok (.getfield 16, 3) := by decide +kernel
theorem dX7_again_70 : decode cX7_again 70 = .ok (.iload 4, 2) := by decide +kernel
theorem dX7_again_72 : decode cX7_again 72 = .ok (.iaload, 1) := by decide +kernel
theorem dX7_again_73 : decode cX7_again 73 = .ok (.iload_n 3, 1) := by decide +kernel
theorem dX7_again_74 : decode cX7_again 74 = .ok (.invokevirtual 119, 3) := by decide +kernel
theorem dX7_again_77 : decode cX7_again 77 = .ok (.lstore 5, 2) := by decide +kernel
theorem dX7_again_79 : decode cX7_again 79 = .ok (.iconst 0, 1) := by decide +kernel
theorem dX7_again_80 : decode cX7_again 80 = .ok (.istore 7, 2) := by decide +kernel
theorem dX7_again_82 : decode cX7_again 82 = .ok (.iload 7, 2) := by decide +kernel
theorem dX7_again_84 : decode cX7_again 84 = .ok (.bipush 6, 2) := by decide +kernel
theorem dX7_again_86 : decode cX7_again 86 = .ok (.if_icmp .ge 123, 3) := by decide +kernel
theorem dX7_again_89 : decode cX7_again 89 = .ok (.aload_n 0, 1) := by decide +kernel
theorem dX7_again_90 : decode cX7_again 90 = .ok (.getfield 78, 3) := by decide +kernel
theorem dX7_again_93 : decode cX7_again 93 = .ok (.aload_n 0, 1) := by decide +kernel
theorem dX7_again_94 : decode cX7_again 94 = .ok (.getfield 7, 3) := by decide +kernel
theorem dX7_again_97 : decode cX7_again 97 = .ok (.iload 4, 2) := by decide +kernel
theorem dX7_again_99 : decode cX7_again 99 = .ok (.iaload, 1) := by decide +kernel
theorem dX7_again_100 : decode cX7_again 100 = .ok (.bipush 6, 2) := by decide +kernel
theorem dX7_again_102 : decode cX7_again 102 = .ok (.imul, 1) := by decide +kernel
theorem dX7_again_103 : decode cX7_again 103 = .ok (.iload 7, 2) := by decide +kernel
theorem dX7_again_105 : decode cX7_again 105 = .ok (.iadd, 1) := by decide +kernel
theorem dX7_again_106 : decode cX7_again 106 = .ok (.laload, 1) := by decide +kernel
theorem dX7_again_107 : decode cX7_again 107 = .ok (.ldc2_w 113, 3) := by decide +kernel
theorem dX7_again_110 : decode cX7_again 110 = .ok (.lcmp, 1) := by decide +kernel
theorem dX7_again_111 : decode cX7_again 111 = .ok (.ifCond .ge 35, 3) := by decide +kernel
theorem dX7_again_114 : decode cX7_again 114 = .ok (.aload_n 0, 1) := by decide +kernel
theorem dX7_again_115 : decode cX7_again 115 = .ok (.aload_n 0, 1) := by decide +kernel
theorem dX7_again_116 : decode cX7_again 116 = .ok (.getfield 13, 3) := by decide +kernel
theorem dX7_again_119 : decode cX7_again 119 = .ok (.iload 4, 2) := by decide +kernel
theorem dX7_again_121 : decode cX7_again 121 = .ok (.iaload, 1) := by decide +kernel
theorem dX7_again_122 : decode cX7_again 122 = .ok (.aload_n 0, 1) := by decide +kernel
theorem dX7_again_123 : decode cX7_again 123 = .ok (.getfield 78, 3) := by decide +kernel
theorem dX7_again_126 : decode cX7_again 126 = .ok (.aload_n 0, 1) := by decide +kernel
theorem dX7_again_127 : decode cX7_again 127 = .ok (.getfield 7, 3) := by decide +kernel
theorem dX7_again_130 : decode cX7_again 130 = .ok (.iload 4, 2) := by decide +kernel
theorem dX7_again_132 : decode cX7_again 132 = .ok (.iaload, 1) := by decide +kernel
theorem dX7_again_133 : decode cX7_again 133 = .ok (.bipush 6, 2) := by decide +kernel
theorem dX7_again_135 : decode cX7_again 135 = .ok (.imul, 1) := by decide +kernel
theorem dX7_again_136 : decode cX7_again 136 = .ok (.iload 7, 2) := by decide +kernel
theorem dX7_again_138 : decode cX7_again 138 = .ok (.iadd, 1) := by decide +kernel
theorem dX7_again_139 : decode cX7_again 139 = .ok (.laload, 1) := by decide +kernel
theorem dX7_again_140 : decode cX7_again 140 = .ok (.lload 5, 2) := by decide +kernel
theorem dX7_again_142 : decode cX7_again 142 = .ok (.ladd, 1) := by decide +kernel
theorem dX7_again_143 : decode cX7_again 143 = .ok (.invokevirtual 152, 3) := by decide +kernel
theorem dX7_again_146 : decode cX7_again 146 = .ok (.aload_n 0, 1) := by decide +kernel
theorem dX7_again_147 : decode cX7_again 147 = .ok (.getfield 78, 3) := by decide +kernel
theorem dX7_again_150 : decode cX7_again 150 = .ok (.aload_n 0, 1) := by decide +kernel
theorem dX7_again_151 : decode cX7_again 151 = .ok (.getfield 13, 3) := by decide +kernel
theorem dX7_again_154 : decode cX7_again 154 = .ok (.iload 4, 2) := by decide +kernel
theorem dX7_again_156 : decode cX7_again 156 = .ok (.iaload, 1) := by decide +kernel
theorem dX7_again_157 : decode cX7_again 157 = .ok (.bipush 6, 2) := by decide +kernel
theorem dX7_again_159 : decode cX7_again 159 = .ok (.imul, 1) := by decide +kernel
theorem dX7_again_160 : decode cX7_again 160 = .ok (.iload 7, 2) := by decide +kernel
theorem dX7_again_162 : decode cX7_again 162 = .ok (.iadd, 1) := by decide +kernel
theorem dX7_again_163 : decode cX7_again 163 = .ok (.laload, 1) := by decide +kernel
theorem dX7_again_164 : decode cX7_again 164 = .ok (.ldc2_w 113, 3) := by decide +kernel
theorem dX7_again_167 : decode cX7_again 167 = .ok (.lcmp, 1) := by decide +kernel
theorem dX7_again_168 : decode cX7_again 168 = .ok (.ifCond .ge 35, 3) := by decide +kernel
theorem dX7_again_171 : decode cX7_again 171 = .ok (.aload_n 0, 1) := by decide +kernel
theorem dX7_again_172 : decode cX7_again 172 = .ok (.aload_n 0, 1) := by decide +kernel
theorem dX7_again_173 : decode cX7_again 173 = .ok (.getfield 7, 3) := by decide +kernel
