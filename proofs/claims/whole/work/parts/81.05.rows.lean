set_option maxRecDepth 20000 in
theorem ggL_net_X6_net : GoodIn wsL_net wsX6_net := goodIn_ca (goodIn_r _ [6, 7, 8, 9, 10, 11, 12, 13, 14, 15, 16, 17, 18, 19, 20, 21, 22, 23, 24, 25, 26, 27, 28, 29, 30, 31, 32, 33, 34, 35, 36, 37, 38, 39, 40, 41, 42, 43, 44, 45, 46, 47, 48, 49, 50, 51, 52, 53, 54, 55, 56, 57, 58, 59, 60, 61, 62, 63, 64, 65] (by decide +kernel) (by decide +kernel)) (goodIn_sub (fun _ h => List.mem_cons_of_mem _ (List.mem_append_right _ h)) (by decide +kernel))
set_option maxRecDepth 20000 in
theorem gL_net_X6_net : GoodIn wsL_net (wsV RL 7 RX6 yX6_net wsX6_net) := goodIn_app (goodIn_of _ (by decide +kernel)) ggL_net_X6_net
theorem dL_net_0 : decode cL_net 0 = .ok (.aload_n 0, 1) := by decide +kernel
theorem dL_net_1 : decode cL_net 1 = .ok (.iload_n 1, 1) := by decide +kernel
theorem dL_net_2 : decode cL_net 2 = .ok (.invokevirtual 7, 3) := by decide +kernel
theorem dL_net_5 : decode cL_net 5 = .ok (.goto 9, 3) := by decide +kernel
theorem dL_net_8 : decode cL_net 8 = .ok (.astore_n 2, 1) := by decide +kernel
theorem dL_net_9 : decode cL_net 9 = .ok (.iconst 1, 1) := by decide +kernel
theorem dL_net_10 : decode cL_net 10 = .ok (.ireturn, 1) := by decide +kernel
theorem dL_net_11 : decode cL_net 11 = .ok (.astore_n 2, 1) := by decide +kernel
theorem dL_net_12 : decode cL_net 12 = .ok (.iconst 2, 1) := by decide +kernel
theorem dL_net_13 : decode cL_net 13 = .ok (.ireturn, 1) := by decide +kernel
theorem dL_net_14 : decode cL_net 14 = .ok (.iconst 0, 1) := by decide +kernel
theorem dL_net_15 : decode cL_net 15 = .ok (.ireturn, 1) := by decide +kernel
set_option maxRecDepth 20000 in
theorem ggL_piece_X6_piece : GoodIn wsL_piece wsX6_piece := goodIn_ca (goodIn_ca (goodIn_ca (goodIn_r _ [8, 9, 10, 11, 12, 13, 14, 15, 16, 17, 18, 19, 20, 21, 7, 22, 23, 24, 25, 26, 27, 28, 29, 30, 31, 32, 33, 34, 35, 36, 37, 38, 39, 40, 41, 42, 43, 44, 45, 46, 47, 48, 49, 50, 51, 52, 53, 54, 55, 56, 57, 58, 59, 60, 61, 62, 63, 64, 65, 66, 67, 68, 69, 70, 71, 72, 73, 74, 75, 76, 77, 78, 79, 80, 81, 82, 83, 84, 85, 86, 87, 88, 89, 90, 91, 92, 93, 94, 95, 96, 97, 98, 99, 100, 101, 102, 103, 104, 105, 106, 107, 108, 109, 110, 111, 112, 113, 114, 115, 116, 117, 118, 119, 120, 121, 122, 123, 124, 125, 126, 127, 128, 129, 130, 131, 132, 133, 134, 135, 136, 137, 138, 139, 140, 141, 142, 143, 144, 145, 146, 147, 148, 149, 150, 151, 152, 153, 154, 155, 156, 157, 158, 159, 160, 161, 162, 163, 164, 165, 166, 167, 168, 169, 170, 171, 172, 173, 174, 175, 176, 177, 178, 179, 180, 181, 182, 183, 184, 185, 186, 187, 188, 189, 190, 191, 192, 193, 194, 195, 196, 197, 198, 199, 200, 201, 202, 203, 204, 205, 206, 207, 208, 209, 210, 211, 212, 213, 214, 215, 216, 217, 218, 219, 220, 221, 222, 223, 224, 225, 226, 227, 228, 229, 230, 231, 232, 233, 234, 235, 236, 237, 238, 239, 240, 241, 242, 243, 244, 245, 246, 247, 248, 249, 250, 251, 252, 253, 254, 255, 256, 257, 258, 259, 260, 261, 262, 263, 264, 265, 266, 267, 268, 269, 270, 271, 272, 273, 274, 275, 276, 277, 278, 279, 280] (by decide +kernel) (by decide +kernel)) (goodIn_sub (fun _ h => List.mem_cons_of_mem _ (List.mem_append_left _ (List.mem_append_left _ (List.mem_append_right _ h)))) (by decide +kernel))) (goodIn_sub (fun _ h => List.mem_cons_of_mem _ (List.mem_append_left _ (List.mem_append_right _ h))) (by decide +kernel))) (goodIn_sub (fun _ h => List.mem_cons_of_mem _ (List.mem_append_right _ h)) (by decide +kernel))
set_option maxRecDepth 20000 in
theorem gL_piece_X6_piece : GoodIn wsL_piece (wsV RL 17 RX6 yX6_piece wsX6_piece) := goodIn_app (goodIn_of _ (by decide +kernel)) ggL_piece_X6_piece
theorem dL_piece_0 : decode cL_piece 0 = .ok (.aload 5, 2) := by decide +kernel
theorem dL_piece_2 : decode cL_piece 2 = .ok (.iconst 0, 1) := by decide +kernel
theorem dL_piece_3 : decode cL_piece 3 = .ok (.aload_n 0, 1) := by decide +kernel
theorem dL_piece_4 : decode cL_piece 4 = .ok (.iload_n 1, 1) := by decide +kernel
theorem dL_piece_5 : decode cL_piece 5 = .ok (.iload_n 2, 1) := by decide +kernel
theorem dL_piece_6 : decode cL_piece 6 = .ok (.iload_n 3, 1) := by decide +kernel
theorem dL_piece_7 : decode cL_piece 7 = .ok (.iload 4, 2) := by decide +kernel
theorem dL_piece_9 : decode cL_piece 9 = .ok (.invokevirtual 17, 3) := by decide +kernel
theorem dL_piece_12 : decode cL_piece 12 = .ok (.i2l, 1) := by decide +kernel
theorem dL_piece_13 : decode cL_piece 13 = .ok (.lastore, 1) := by decide +kernel
theorem dL_piece_14 : decode cL_piece 14 = .ok (.goto 15, 3) := by decide +kernel
theorem dL_piece_17 : decode cL_piece 17 = .ok (.astore 6, 2) := by decide +kernel
theorem dL_piece_19 : decode cL_piece 19 = .ok (.iconst 1, 1) := by decide +kernel
theorem dL_piece_20 : decode cL_piece 20 = .ok (.ireturn, 1) := by decide +kernel
theorem dL_piece_21 : decode cL_piece 21 = .ok (.astore 6, 2) := by decide +kernel
theorem dL_piece_23 : decode cL_piece 23 = .ok (.iconst 2, 1) := by decide +kernel
theorem dL_piece_24 : decode cL_piece 24 = .ok (.ireturn, 1) := by decide +kernel
theorem dL_piece_25 : decode cL_piece 25 = .ok (.astore 6, 2) := by decide +kernel
theorem dL_piece_27 : decode cL_piece 27 = .ok (.iconst 3, 1) := by decide +kernel
theorem dL_piece_28 : decode cL_piece 28 = .ok (.ireturn, 1) := by decide +kernel
theorem dL_piece_29 : decode cL_piece 29 = .ok (.iconst 0, 1) := by decide +kernel
theorem dL_piece_30 : decode cL_piece 30 = .ok (.ireturn, 1) := by decide +kernel
set_option maxRecDepth 20000 in
theorem ggL_limit_X6_limit : GoodIn wsL_limit wsX6_limit := goodIn_ca (goodIn_ca (goodIn_r _ [7, 8, 9, 10, 11, 12, 6, 13, 14, 15, 16, 17, 18, 19, 20, 21, 22, 23, 24, 25, 26, 27, 28, 29, 30, 31, 32, 33, 34, 35, 36, 37, 38, 39, 40, 41, 42, 43, 44, 45, 46, 47, 48, 49, 50, 51, 52, 53, 54, 55, 56, 57, 58, 59, 60, 61, 62, 63, 64, 65, 66, 67, 68, 69, 70, 71, 72, 73, 74, 75, 76, 77, 78, 79, 80, 81, 82, 83, 84, 85, 86, 87, 88, 89, 90, 91, 92, 93, 94, 95, 96, 97, 98, 99, 100, 101, 102, 103, 104, 105, 106, 107, 108, 109, 110, 111, 112, 113, 114, 115, 116, 117, 118, 119, 120, 121, 122, 123, 124, 125, 126, 127, 128, 129, 130, 131, 132, 133, 134, 135, 136, 137, 138, 139, 140, 141, 142, 143, 144, 145, 146, 147, 148, 149, 150, 151, 152, 153, 154, 155, 156, 157, 158, 159, 160, 161, 162, 163, 164, 165, 166, 167, 168, 169, 170, 171, 172, 173, 174, 175, 176, 177, 178, 179, 180, 181, 182, 183, 184, 185, 186, 187, 188, 189, 190, 191, 192, 193, 194, 195, 196, 197, 198, 199, 200, 201, 202] (by decide +kernel) (by decide +kernel)) (goodIn_sub (fun _ h => List.mem_cons_of_mem _ (List.mem_append_left _ (List.mem_append_right _ h))) (by decide +kernel))) (goodIn_sub (fun _ h => List.mem_cons_of_mem _ (List.mem_append_right _ h)) (by decide +kernel))
set_option maxRecDepth 20000 in
theorem gL_limit_X6_limit : GoodIn wsL_limit (wsV RL 25 RX6 yX6_limit wsX6_limit) := goodIn_app (goodIn_of _ (by decide +kernel)) ggL_limit_X6_limit
theorem dL_limit_0 : decode cL_limit 0 = .ok (.aload 4, 2) := by decide +kernel
theorem dL_limit_2 : decode cL_limit 2 = .ok (.iconst 0, 1) := by decide +kernel
theorem dL_limit_3 : decode cL_limit 3 = .ok (.aload_n 0, 1) := by decide +kernel
theorem dL_limit_4 : decode cL_limit 4 = .ok (.iload_n 1, 1) := by decide +kernel
theorem dL_limit_5 : decode cL_limit 5 = .ok (.iload_n 2, 1) := by decide +kernel
theorem dL_limit_6 : decode cL_limit 6 = .ok (.iload_n 3, 1) := by decide +kernel
theorem dL_limit_7 : decode cL_limit 7 = .ok (.invokevirtual 25, 3) := by decide +kernel
theorem dL_limit_10 : decode cL_limit 10 = .ok (.i2l, 1) := by decide +kernel
theorem dL_limit_11 : decode cL_limit 11 = .ok (.lastore, 1) := by decide +kernel
theorem dL_limit_12 : decode cL_limit 12 = .ok (.goto 11, 3) := by decide +kernel
theorem dL_limit_15 : decode cL_limit 15 = .ok (.astore 5, 2) := by decide +kernel
theorem dL_limit_17 : decode cL_limit 17 = .ok (.iconst 1, 1) := by decide +kernel
theorem dL_limit_18 : decode cL_limit 18 = .ok (.ireturn, 1) := by decide +kernel
theorem dL_limit_19 : decode cL_limit 19 = .ok (.astore 5, 2) := by decide +kernel
theorem dL_limit_21 : decode cL_limit 21 = .ok (.iconst 2, 1) := by decide +kernel
theorem dL_limit_22 : decode cL_limit 22 = .ok (.ireturn, 1) := by decide +kernel
theorem dL_limit_23 : decode cL_limit 23 = .ok (.iconst 0, 1) := by decide +kernel
theorem dL_limit_24 : decode cL_limit 24 = .ok (.ireturn, 1) := by decide +kernel
set_option maxRecDepth 20000 in
theorem ggL_slow_X6_slow : GoodIn wsL_slow wsX6_slow := goodIn_ca (goodIn_ca (goodIn_ca (goodIn_r _ [8, 9, 10, 11, 12, 13, 14, 7, 15, 16, 17, 18, 19, 20, 21, 22, 23, 24, 25, 26, 27, 28, 29, 30, 31, 32, 33, 34, 35, 36, 37, 38, 39, 40, 41, 42, 43, 44, 45, 46, 47, 48, 49, 50, 51, 52, 53, 54, 55, 56, 57, 58, 59, 60, 61, 62, 63, 64, 65, 66, 67, 68, 69, 70, 71, 72, 73, 74, 75, 76, 77, 78, 79, 80, 81, 82, 83, 84, 85, 86, 87, 88, 89, 90, 91, 92, 93, 94, 95, 96, 97, 98, 99, 100, 101, 102, 103, 104, 105, 106, 107, 108, 109, 110, 111, 112, 113, 114, 115, 116, 117, 118, 119, 120, 121, 122, 123, 124, 125, 126, 127, 128, 129, 130, 131, 132, 133, 134, 135, 136, 137, 138, 139, 140, 141, 142, 143, 144, 145, 146, 147, 148, 149, 150, 151, 152, 153, 154, 155, 156, 157, 158, 159, 160, 161, 162, 163, 164, 165, 166, 167, 168, 169, 170, 171, 172, 173, 174, 175, 176, 177, 178, 179, 180, 181, 182, 183, 184, 185, 186, 187, 188, 189, 190, 191, 192, 193, 194, 195, 196, 197, 198, 199, 200, 201, 202, 203, 204, 205, 206, 207, 208] (by decide +kernel) (by decide +kernel)) (goodIn_sub (fun _ h => List.mem_cons_of_mem _ (List.mem_append_left _ (List.mem_append_left _ (List.mem_append_right _ h)))) (by decide +kernel))) (goodIn_sub (fun _ h => List.mem_cons_of_mem _ (List.mem_append_left _ (List.mem_append_right _ h))) (by decide +kernel))) (goodIn_sub (fun _ h => List.mem_cons_of_mem _ (List.mem_append_right _ h)) (by decide +kernel))
set_option maxRecDepth 20000 in
theorem gL_slow_X6_slow : GoodIn wsL_slow (wsV RL 29 RX6 yX6_slow wsX6_slow) := goodIn_app (goodIn_of _ (by decide +kernel)) ggL_slow_X6_slow
theorem dL_slow_0 : decode cL_slow 0 = .ok (.aload 5, 2) := by decide +kernel
theorem dL_slow_2 : decode cL_slow 2 = .ok (.iconst 0, 1) := by decide +kernel
theorem dL_slow_3 : decode cL_slow 3 = .ok (.aload_n 0, 1) := by decide +kernel
theorem dL_slow_4 : decode cL_slow 4 = .ok (.iload_n 1, 1) := by decide +kernel
theorem dL_slow_5 : decode cL_slow 5 = .ok (.iload_n 2, 1) := by decide +kernel
theorem dL_slow_6 : decode cL_slow 6 = .ok (.iload_n 3, 1) := by decide +kernel
theorem dL_slow_7 : decode cL_slow 7 = .ok (.iload 4, 2) := by decide +kernel
theorem dL_slow_9 : decode cL_slow 9 = .ok (.invokevirtual 29, 3) := by decide +kernel
theorem dL_slow_12 : decode cL_slow 12 = .ok (.i2l, 1) := by decide +kernel
theorem dL_slow_13 : decode cL_slow 13 = .ok (.lastore, 1) := by decide +kernel
theorem dL_slow_14 : decode cL_slow 14 = .ok (.goto 15, 3) := by decide +kernel
theorem dL_slow_17 : decode cL_slow 17 = .ok (.astore 6, 2) := by decide +kernel
theorem dL_slow_19 : decode cL_slow 19 = .ok (.iconst 1, 1) := by decide +kernel
theorem dL_slow_20 : decode cL_slow 20 = .ok (.ireturn, 1) := by decide +kernel
theorem dL_slow_21 : decode cL_slow 21 = .ok (.astore 6, 2) := by decide +kernel
theorem dL_slow_23 : decode cL_slow 23 = .ok (.iconst 2, 1) := by decide +kernel
theorem dL_slow_24 : decode cL_slow 24 = .ok (.ireturn, 1) := by decide +kernel
theorem dL_slow_25 : decode cL_slow 25 = .ok (.astore 6, 2) := by decide +kernel
theorem dL_slow_27 : decode cL_slow 27 = .ok (.iconst 3, 1) := by decide +kernel
theorem dL_slow_28 : decode cL_slow 28 = .ok (.ireturn, 1) := by decide +kernel
theorem dL_slow_29 : decode cL_slow 29 = .ok (.iconst 0, 1) := by decide +kernel
theorem dL_slow_30 : decode cL_slow 30 = .ok (.ireturn, 1) := by decide +kernel
set_option maxRecDepth 20000 in
theorem ggL_close_X6_close : GoodIn wsL_close wsX6_close := goodIn_ca (goodIn_ca (goodIn_r _ [7, 8, 9, 10, 11, 12, 13, 6, 14, 15, 16, 17, 18, 19, 20, 21, 22, 23, 24, 25, 26, 27, 28, 29, 30, 31, 32, 33, 34, 35, 36, 37, 38, 39, 40, 41, 42, 43, 44, 45, 46, 47, 48, 49, 50, 51, 52, 53, 54, 55, 56, 57, 58, 59, 60, 61, 62, 63, 64, 65, 66, 67, 68, 69, 70, 71, 72, 73, 74, 75, 76, 77, 78, 79, 80, 81, 82, 83, 84, 85, 86, 87, 88, 89, 90, 91, 92, 93, 94, 95, 96, 97, 98, 99, 100, 101, 102, 103, 104, 105, 106, 107, 108, 109, 110, 111, 112, 113, 114, 115, 116, 117, 118, 119, 120, 121, 122, 123, 124, 125, 126, 127, 128, 129, 130, 131, 132, 133, 134, 135, 136, 137, 138, 139, 140, 141, 142, 143, 144, 145, 146, 147, 148, 149, 150, 151, 152, 153, 154, 155, 156, 157, 158, 159, 160, 161, 162, 163, 164, 165, 166, 167, 168, 169, 170, 171, 172, 173, 174, 175, 176, 177, 178, 179, 180, 181, 182, 183, 184, 185, 186, 187, 188, 189, 190, 191, 192, 193, 194, 195, 196, 197, 198] (by decide +kernel) (by decide +kernel)) (goodIn_sub (fun _ h => List.mem_cons_of_mem _ (List.mem_append_left _ (List.mem_append_right _ h))) (by decide +kernel))) (goodIn_sub (fun _ h => List.mem_cons_of_mem _ (List.mem_append_right _ h)) (by decide +kernel))
set_option maxRecDepth 20000 in
theorem gL_close_X6_close : GoodIn wsL_close (wsV RL 32 RX6 yX6_close wsX6_close) := goodIn_app (goodIn_of _ (by decide +kernel)) ggL_close_X6_close
theorem dL_close_0 : decode cL_close 0 = .ok (.aload_n 3, 1) := by decide +kernel
theorem dL_close_1 : decode cL_close 1 = .ok (.iconst 0, 1) := by decide +kernel
theorem dL_close_2 : decode cL_close 2 = .ok (.aload_n 0, 1) := by decide +kernel
theorem dL_close_3 : decode cL_close 3 = .ok (.iload_n 1, 1) := by decide +kernel
theorem dL_close_4 : decode cL_close 4 = .ok (.iload_n 2, 1) := by decide +kernel
theorem dL_close_5 : decode cL_close 5 = .ok (.invokevirtual 32, 3) := by decide +kernel
theorem dL_close_8 : decode cL_close 8 = .ok (.i2l, 1) := by decide +kernel
theorem dL_close_9 : decode cL_close 9 = .ok (.lastore, 1) := by decide +kernel
theorem dL_close_10 : decode cL_close 10 = .ok (.goto 11, 3) := by decide +kernel
theorem dL_close_13 : decode cL_close 13 = .ok (.astore 4, 2) := by decide +kernel
theorem dL_close_15 : decode cL_close 15 = .ok (.iconst 1, 1) := by decide +kernel
theorem dL_close_16 : decode cL_close 16 = .ok (.ireturn, 1) := by decide +kernel
theorem dL_close_17 : decode cL_close 17 = .ok (.astore 4, 2) := by decide +kernel
theorem dL_close_19 : decode cL_close 19 = .ok (.iconst 2, 1) := by decide +kernel
theorem dL_close_20 : decode cL_close 20 = .ok (.ireturn, 1) := by decide +kernel
theorem dL_close_21 : decode cL_close 21 = .ok (.iconst 0, 1) := by decide +kernel
theorem dL_close_22 : decode cL_close 22 = .ok (.ireturn, 1) := by decide +kernel
set_option maxRecDepth 20000 in
theorem ggL_speed_X6_speed : GoodIn wsL_speed wsX6_speed := goodIn_ca (goodIn_ca (goodIn_r _ [7, 8, 9, 10, 11, 6, 12, 13, 14, 15, 16, 17, 18, 19, 20, 21, 22, 23, 24, 25, 26, 27, 28, 29, 30, 31, 32, 33, 34, 35, 36, 37, 38, 39, 40, 41, 42, 43, 44, 45, 46, 47, 48, 49, 50, 51, 52, 53, 54, 55, 56, 57, 58, 59, 60, 61, 62, 63, 64, 65, 66, 67, 68, 69, 70, 71, 72, 73, 74, 75, 76, 77, 78, 79, 80, 81, 82, 83, 84, 85, 86, 87, 88, 89, 90, 91, 92, 93, 94, 95, 96, 97, 98, 99, 100, 101, 102, 103, 104, 105, 106, 107, 108, 109, 110, 111, 112, 113, 114, 115, 116, 117, 118, 119, 120, 121, 122, 123, 124, 125, 126, 127, 128, 129, 130, 131, 132, 133, 134, 135, 136, 137, 138, 139, 140, 141, 142, 143, 144, 145, 146, 147, 148, 149, 150, 151, 152, 153, 154, 155, 156, 157, 158, 159, 160, 161, 162, 163, 164, 165, 166, 167, 168, 169, 170, 171, 172, 173, 174, 175, 176, 177, 178, 179, 180, 181, 182, 183, 184, 185, 186, 187, 188, 189, 190, 191, 192, 193, 194, 195, 196, 197, 198, 199, 200, 201] (by decide +kernel) (by decide +kernel)) (goodIn_sub (fun _ h => List.mem_cons_of_mem _ (List.mem_append_left _ (List.mem_append_right _ h))) (by decide +kernel))) (goodIn_sub (fun _ h => List.mem_cons_of_mem _ (List.mem_append_right _ h)) (by decide +kernel))
set_option maxRecDepth 20000 in
theorem gL_speed_X6_speed : GoodIn wsL_speed (wsV RL 38 RX6 yX6_speed wsX6_speed) := goodIn_app (goodIn_of _ (by decide +kernel)) ggL_speed_X6_speed
theorem dL_speed_0 : decode cL_speed 0 = .ok (.aload_n 3, 1) := by decide +kernel
theorem dL_speed_1 : decode cL_speed 1 = .ok (.iconst 0, 1) := by decide +kernel
theorem dL_speed_2 : decode cL_speed 2 = .ok (.aload_n 0, 1) := by decide +kernel
theorem dL_speed_3 : decode cL_speed 3 = .ok (.iload_n 1, 1) := by decide +kernel
theorem dL_speed_4 : decode cL_speed 4 = .ok (.iload_n 2, 1) := by decide +kernel
theorem dL_speed_5 : decode cL_speed 5 = .ok (.invokevirtual 38, 3) := by decide +kernel
theorem dL_speed_8 : decode cL_speed 8 = .ok (.i2l, 1) := by decide +kernel
theorem dL_speed_9 : decode cL_speed 9 = .ok (.lastore, 1) := by decide +kernel
theorem dL_speed_10 : decode cL_speed 10 = .ok (.goto 11, 3) := by decide +kernel
theorem dL_speed_13 : decode cL_speed 13 = .ok (.astore 4, 2) := by decide +kernel
theorem dL_speed_15 : decode cL_speed 15 = .ok (.iconst 1, 1) := by decide +kernel
theorem dL_speed_16 : decode cL_speed 16 = .ok (.ireturn, 1) := by decide +kernel
theorem dL_speed_17 : decode cL_speed 17 = .ok (.astore 4, 2) := by decide +kernel
theorem dL_speed_19 : decode cL_speed 19 = .ok (.iconst 2, 1) := by decide +kernel
theorem dL_speed_20 : decode cL_speed 20 = .ok (.ireturn, 1) := by decide +kernel
theorem dL_speed_21 : decode cL_speed 21 = .ok (.iconst 0, 1) := by decide +kernel
theorem dL_speed_22 : decode cL_speed 22 = .ok (.ireturn, 1) := by decide +kernel
set_option maxRecDepth 20000 in
theorem ggL_unit_X6_unit : GoodIn wsL_unit wsX6_unit := goodIn_ca (goodIn_ca (goodIn_ca (goodIn_r _ [8, 9, 10, 11, 12, 13, 14, 15, 16, 17, 18, 7, 19, 20, 21, 22, 23, 24, 25, 26, 27, 28, 29, 30, 31, 32, 33, 34, 35, 36, 37, 38, 39, 40, 41, 42, 43, 44, 45, 46, 47, 48, 49, 50, 51, 52, 53, 54, 55, 56, 57, 58, 59, 60, 61, 62, 63, 64, 65, 66, 67, 68, 69, 70, 71, 72, 73, 74, 75, 76, 77, 78, 79, 80, 81, 82, 83, 84, 85, 86, 87, 88, 89, 90, 91, 92, 93, 94, 95, 96, 97, 98, 99, 100, 101, 102, 103, 104, 105, 106, 107, 108, 109, 110, 111, 112, 113, 114, 115, 116] (by decide +kernel) (by decide +kernel)) (goodIn_sub (fun _ h => List.mem_cons_of_mem _ (List.mem_append_left _ (List.mem_append_left _ (List.mem_append_right _ h)))) (by decide +kernel))) (goodIn_sub (fun _ h => List.mem_cons_of_mem _ (List.mem_append_left _ (List.mem_append_right _ h))) (by decide +kernel))) (goodIn_sub (fun _ h => List.mem_cons_of_mem _ (List.mem_append_right _ h)) (by decide +kernel))
set_option maxRecDepth 20000 in
theorem gL_unit_X6_unit : GoodIn wsL_unit (wsV RL 42 RX6 yX6_unit wsX6_unit) := goodIn_app (goodIn_of _ (by decide +kernel)) ggL_unit_X6_unit
theorem dL_unit_0 : decode cL_unit 0 = .ok (.aload 6, 2) := by decide +kernel
theorem dL_unit_2 : decode cL_unit 2 = .ok (.iconst 0, 1) := by decide +kernel
theorem dL_unit_3 : decode cL_unit 3 = .ok (.aload_n 0, 1) := by decide +kernel
theorem dL_unit_4 : decode cL_unit 4 = .ok (.iload_n 1, 1) := by decide +kernel
theorem dL_unit_5 : decode cL_unit 5 = .ok (.iload_n 2, 1) := by decide +kernel
theorem dL_unit_6 : decode cL_unit 6 = .ok (.iload_n 3, 1) := by decide +kernel
theorem dL_unit_7 : decode cL_unit 7 = .ok (.iload 4, 2) := by decide +kernel
theorem dL_unit_9 : decode cL_unit 9 = .ok (.iload 5, 2) := by decide +kernel
theorem dL_unit_11 : decode cL_unit 11 = .ok (.invokevirtual 42, 3) := by decide +kernel
theorem dL_unit_14 : decode cL_unit 14 = .ok (.i2l, 1) := by decide +kernel
theorem dL_unit_15 : decode cL_unit 15 = .ok (.lastore, 1) := by decide +kernel
theorem dL_unit_16 : decode cL_unit 16 = .ok (.goto 15, 3) := by decide +kernel
theorem dL_unit_19 : decode cL_unit 19 = .ok (.astore 7, 2) := by decide +kernel
theorem dL_unit_21 : decode cL_unit 21 = .ok (.iconst 1, 1) := by decide +kernel
