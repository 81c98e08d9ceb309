set_option maxRecDepth 20000 in
theorem ggL_does_X4_create : GoodIn wsL_does wsX4_create := goodIn_ca (goodIn_ca (goodIn_r _ [8, 9, 10, 11, 12, 13, 14, 7, 15, 16, 17, 18, 19, 20, 21, 22, 23, 24, 25, 26, 27, 28, 29, 30, 31, 32, 33, 34, 35, 36, 37, 38, 39, 40, 41, 42, 43, 44, 45, 46, 47, 48, 49, 50, 51, 52, 53, 54, 55, 56, 57, 58, 59, 60, 61, 62, 63, 64, 65, 66, 67, 68, 69, 70, 71, 72, 73, 74, 75, 76, 77, 78, 79, 80, 81, 82, 83, 84, 85, 86, 87, 88, 89, 90, 91, 92, 93, 94, 95, 96, 97, 98, 99, 100, 101, 102, 103, 104, 272, 273, 274, 275, 276, 277, 278, 279, 280, 281, 282, 283, 284, 285, 286, 287, 288, 289, 290, 291, 292, 293, 294, 295, 296] (by decide +kernel) (by decide +kernel)) (goodIn_sub (fun _ h => List.mem_cons_of_mem _ (List.mem_append_left _ (List.mem_append_left _ (List.mem_append_right _ h)))) (by decide +kernel))) (goodIn_sub (fun _ h => List.mem_cons_of_mem _ (List.mem_append_left _ (List.mem_append_right _ h))) (by decide +kernel))
set_option maxRecDepth 20000 in
theorem gL_does_X4_create : GoodIn wsL_does (wsV RL 8 RX4 yX4_create wsX4_create) := goodIn_app (goodIn_of _ (by decide +kernel)) ggL_does_X4_create
set_option maxRecDepth 20000 in
theorem ggL_does_X4_open : GoodIn wsL_does wsX4_open := goodIn_ca (goodIn_ca (goodIn_r _ [108, 12, 13, 14, 7, 15, 16, 17, 18, 19, 20, 21, 22, 23, 24, 9, 10, 25, 109, 110, 111, 112, 11, 30, 31, 32, 33, 34, 35, 36, 37, 38, 39, 40, 41, 42, 43, 44, 45, 46, 47, 48, 49, 50, 51, 52, 53, 54, 55, 56, 57, 58, 59, 60, 61, 62, 63, 64, 65, 66, 67, 272, 273, 274, 275, 276, 277, 278, 279, 280, 281, 282, 283, 284, 285, 286, 287, 288, 289, 290, 291, 292, 293, 294, 295, 296] (by decide +kernel) (by decide +kernel)) (goodIn_sub (fun _ h => List.mem_cons_of_mem _ (List.mem_append_left _ (List.mem_append_right _ h))) (by decide +kernel))) (goodIn_sub (fun _ h => List.mem_cons_of_mem _ (List.mem_append_left _ (List.mem_append_left _ (List.mem_append_right _ h)))) (by decide +kernel))
set_option maxRecDepth 20000 in
theorem gL_does_X4_open : GoodIn wsL_does (wsV RL 14 RX4 yX4_open wsX4_open) := goodIn_app (goodIn_of _ (by decide +kernel)) ggL_does_X4_open
set_option maxRecDepth 20000 in
theorem ggL_does_X4_close : GoodIn wsL_does wsX4_close := goodIn_ca (goodIn_ca (goodIn_r _ [116, 9, 10, 117, 118, 119, 7, 120, 121, 122, 12, 21, 22, 23, 24, 25, 123, 124, 125, 126, 127, 128, 129, 130, 131, 101, 132, 133, 134, 135, 136, 137, 138, 139, 140, 141, 142, 143, 144, 145, 146, 147, 148, 149, 150, 151, 152, 153, 154, 155, 156, 157, 158, 159, 160, 161, 162, 163, 164, 165, 166, 167, 168, 169, 170, 171, 172, 173, 174, 277, 278, 279, 280, 281, 282, 283, 284, 285, 286, 287, 272, 273, 274, 275, 276, 297, 298] (by decide +kernel) (by decide +kernel)) (goodIn_sub (fun _ h => List.mem_cons_of_mem _ (List.mem_append_left _ (List.mem_append_left _ (List.mem_append_right _ h)))) (by decide +kernel))) (goodIn_sub (fun _ h => List.mem_cons_of_mem _ (List.mem_append_right _ h)) (by decide +kernel))
set_option maxRecDepth 20000 in
theorem gL_does_X4_close : GoodIn wsL_does (wsV RL 17 RX4 yX4_close wsX4_close) := goodIn_app (goodIn_of _ (by decide +kernel)) ggL_does_X4_close
set_option maxRecDepth 20000 in
theorem ggL_does_X4_delete : GoodIn wsL_does wsX4_delete := goodIn_ca (goodIn_ca (goodIn_r _ [178, 12, 11, 13, 14, 7, 15, 16, 17, 18, 19, 20, 21, 22, 23, 24, 9, 10, 25, 109, 110, 111, 112, 30, 31, 32, 33, 34, 35, 36, 37, 38, 39, 40, 41, 42, 43, 44, 45, 46, 47, 48, 49, 50, 51, 52, 53, 54, 55, 56, 57, 58, 59, 60, 61, 62, 63, 64, 65, 66, 67, 179, 180, 181, 182, 183, 184, 123, 124, 125, 126, 127, 128, 129, 130, 131, 101, 132, 133, 134, 135, 136, 137, 138, 139, 140, 141, 142, 143, 144, 145, 146, 147, 148, 149, 150, 151, 152, 153, 154, 155, 156, 157, 158, 159, 160, 161, 162, 163, 164, 165, 166, 167, 168, 169, 170, 171, 172, 173, 174, 272, 273, 274, 275, 276, 277, 278, 279, 280, 281, 282, 283, 284, 285, 286, 287, 288, 289, 290, 291, 292, 293, 294, 295, 296, 297, 298] (by decide +kernel) (by decide +kernel)) (goodIn_sub (fun _ h => List.mem_cons_of_mem _ (List.mem_append_left _ (List.mem_append_right _ h))) (by decide +kernel))) (goodIn_sub (fun _ h => List.mem_cons_of_mem _ (List.mem_append_left _ (List.mem_append_left _ (List.mem_append_right _ h)))) (by decide +kernel))
set_option maxRecDepth 20000 in
theorem gL_does_X4_delete : GoodIn wsL_does (wsV RL 20 RX4 yX4_delete wsX4_delete) := goodIn_app (goodIn_of _ (by decide +kernel)) ggL_does_X4_delete
set_option maxRecDepth 20000 in
theorem ggL_does_X4_flush : GoodIn wsL_does wsX4_flush := goodIn_ca (goodIn_ca (goodIn_r _ [188, 117, 118, 119, 7, 120, 121, 122, 12, 21, 22, 23, 24, 9, 10, 25, 189, 101, 190, 191, 134, 192, 193, 194, 195, 196, 197, 198, 199, 200, 201, 202, 203, 204, 205, 206, 207, 208, 209, 210, 211, 212, 213, 214, 215, 216, 135, 217, 218, 219, 220, 221, 222, 223, 224, 140, 225, 226, 227, 228, 229, 151, 152, 153, 230, 231, 232, 233, 234, 235, 236, 237, 238, 239, 240, 241, 242, 243, 244, 245, 246, 142, 247, 248, 249, 250, 251, 252, 149, 253, 254, 255, 256, 257, 258, 259, 260, 261, 262, 263, 145, 146, 147, 148, 150, 136, 137, 138, 139, 141, 143, 144, 272, 273, 274, 275, 276, 277, 278, 279, 280, 281, 282, 283, 284, 285, 286, 287, 297, 298] (by decide +kernel) (by decide +kernel)) (goodIn_sub (fun _ h => List.mem_cons_of_mem _ (List.mem_append_right _ h)) (by decide +kernel))) (goodIn_sub (fun _ h => List.mem_cons_of_mem _ (List.mem_append_left _ (List.mem_append_left _ (List.mem_append_right _ h)))) (by decide +kernel))
set_option maxRecDepth 20000 in
theorem gL_does_X4_flush : GoodIn wsL_does (wsV RL 23 RX4 yX4_flush wsX4_flush) := goodIn_app (goodIn_of _ (by decide +kernel)) ggL_does_X4_flush
set_option maxRecDepth 20000 in
theorem ggL_does_X4_start : GoodIn wsL_does wsX4_start := goodIn_ca (goodIn_r _ [267, 9, 10, 25, 12, 268, 269, 270, 7, 271, 123, 124, 125, 126, 127, 128, 129, 130, 131, 101, 132, 133, 134, 135, 136, 137, 138, 139, 140, 141, 142, 143, 144, 145, 146, 147, 148, 149, 150, 151, 152, 153, 154, 155, 156, 157, 158, 159, 160, 161, 162, 163, 164, 165, 166, 167, 168, 169, 170, 171, 172, 173, 174, 272, 273, 274, 275, 276, 277, 278, 279, 280, 281, 282, 283, 284, 285, 286, 287, 297, 298] (by decide +kernel) (by decide +kernel)) (goodIn_sub (fun _ h => List.mem_cons_of_mem _ (List.mem_append_left _ (List.mem_append_left _ (List.mem_append_right _ h)))) (by decide +kernel))
set_option maxRecDepth 20000 in
theorem gL_does_X4_start : GoodIn wsL_does (wsV RL 26 RX4 yX4_start wsX4_start) := goodIn_app (goodIn_of _ (by decide +kernel)) ggL_does_X4_start
set_option maxRecDepth 20000 in
theorem ggL_crashes_X4_crashBehind : GoodIn wsL_crashes wsX4_crashBehind := goodIn_ca (goodIn_ca (goodIn_r _ [7, 8, 9, 10, 6, 11, 12, 13, 14, 15, 16, 17, 18, 19, 20, 21, 22, 23, 24, 25] (by decide +kernel) (by decide +kernel)) (goodIn_sub (fun _ h => List.mem_cons_of_mem _ (List.mem_append_left _ (List.mem_append_right _ h))) (by decide +kernel))) (goodIn_sub (fun _ h => List.mem_cons_of_mem _ (List.mem_append_right _ h)) (by decide +kernel))
set_option maxRecDepth 20000 in
theorem gL_crashes_X4_crashBehind : GoodIn wsL_crashes (wsV RL 36 RX4 yX4_crashBehind wsX4_crashBehind) := goodIn_app (goodIn_of _ (by decide +kernel)) ggL_crashes_X4_crashBehind
set_option maxRecDepth 20000 in
theorem ggL_crash_X4_crash : GoodIn wsL_crash wsX4_crash := goodIn_ca (goodIn_r _ [6, 7, 8, 9, 5, 10, 11, 12, 13, 14, 15, 16, 17, 18, 19, 20, 21, 22, 23, 24, 25, 26, 27, 28, 29, 30, 31, 32, 33, 34, 35, 36, 37, 38, 39, 40, 41, 42, 43, 44, 45, 46, 47, 48, 49, 50, 51, 52, 53, 54, 55, 56, 57, 58, 59, 60, 61, 62] (by decide +kernel) (by decide +kernel)) (goodIn_sub (fun _ h => List.mem_cons_of_mem _ (List.mem_append_right _ h)) (by decide +kernel))
set_option maxRecDepth 20000 in
theorem gL_crash_X4_crash : GoodIn wsL_crash (wsV RL 40 RX4 yX4_crash wsX4_crash) := goodIn_app (goodIn_of _ (by decide +kernel)) ggL_crash_X4_crash
set_option maxRecDepth 20000 in
theorem ggL_write_X4_cut : GoodIn wsL_write wsX4_cut := goodIn_ca (goodIn_ca (goodIn_ca (goodIn_r _ [8, 9, 10, 11, 7, 12, 13, 14, 15, 16, 17, 18, 19, 20, 21, 22, 23, 24, 25, 26, 27, 28, 29, 30, 31, 32, 33, 34, 35, 36, 37, 38, 39, 40, 41, 42, 43, 44, 45, 46, 47, 48, 49, 50, 51, 52, 53, 54, 55, 56, 57, 58, 59, 60, 61, 62, 63, 64, 65, 66, 67, 68, 69, 70, 71, 72, 73, 74, 75, 76, 103, 104, 105, 106, 107, 108, 109, 110, 111, 112, 113, 114, 115, 116, 117, 118, 119, 120] (by decide +kernel) (by decide +kernel)) (goodIn_sub (fun _ h => List.mem_cons_of_mem _ (List.mem_append_left _ (List.mem_append_left _ (List.mem_append_right _ h)))) (by decide +kernel))) (goodIn_sub (fun _ h => List.mem_cons_of_mem _ (List.mem_append_left _ (List.mem_append_right _ h))) (by decide +kernel))) (goodIn_sub (fun _ h => List.mem_cons_of_mem _ (List.mem_append_right _ h)) (by decide +kernel))
set_option maxRecDepth 20000 in
theorem gL_write_X4_cut : GoodIn wsL_write (wsV RL 43 RX4 yX4_cut wsX4_cut) := goodIn_app (goodIn_of _ (by decide +kernel)) ggL_write_X4_cut
set_option maxRecDepth 20000 in
theorem ggL_write_X4_write : GoodIn wsL_write wsX4_write := goodIn_ca (goodIn_ca (goodIn_ca (goodIn_r _ [80, 25, 26, 9, 10, 11, 7, 12, 13, 14, 15, 16, 17, 18, 19, 20, 21, 22, 23, 24, 27, 81, 33, 82, 83, 36, 84, 85, 86, 87, 88, 89, 90, 91, 42, 92, 93, 94, 95, 96, 97, 98, 99, 73, 74, 75, 76, 38, 39, 40, 41, 43, 44, 45, 46, 47, 48, 49, 50, 51, 52, 100, 101, 102, 37, 103, 104, 105, 106, 107, 108, 109, 110, 111, 112, 113, 114, 115, 116, 117, 118, 119, 120] (by decide +kernel) (by decide +kernel)) (goodIn_sub (fun _ h => List.mem_cons_of_mem _ (List.mem_append_right _ h)) (by decide +kernel))) (goodIn_sub (fun _ h => List.mem_cons_of_mem _ (List.mem_append_left _ (List.mem_append_left _ (List.mem_append_right _ h)))) (by decide +kernel))) (goodIn_sub (fun _ h => List.mem_cons_of_mem _ (List.mem_append_left _ (List.mem_append_right _ h))) (by decide +kernel))
set_option maxRecDepth 20000 in
theorem gL_write_X4_write : GoodIn wsL_write (wsV RL 47 RX4 yX4_write wsX4_write) := goodIn_app (goodIn_of _ (by decide +kernel)) ggL_write_X4_write
set_option maxRecDepth 20000 in
theorem ggL_of_X4_opens : GoodIn wsL_of wsX4_opens := goodIn_ca (goodIn_r _ [7, 8, 9, 10, 6, 11, 12, 13, 14, 130, 131, 132, 133, 134, 135, 136, 137, 138, 139, 140, 141, 142, 143, 144, 145] (by decide +kernel) (by decide +kernel)) (goodIn_sub (fun _ h => List.mem_cons_of_mem _ (List.mem_append_left _ (List.mem_append_right _ h))) (by decide +kernel))
set_option maxRecDepth 20000 in
theorem gL_of_X4_opens : GoodIn wsL_of (wsV RL 51 RX4 yX4_opens wsX4_opens) := goodIn_app (goodIn_of _ (by decide +kernel)) ggL_of_X4_opens
set_option maxRecDepth 20000 in
theorem ggL_of_X4_extents : GoodIn wsL_of wsX4_extents := goodIn_ca (goodIn_r _ [18, 8, 9, 10, 6, 11, 12, 13, 14, 19, 20, 21, 22, 23, 24, 25, 26, 27, 28, 29, 30, 31, 32, 33, 34, 35, 141, 142, 143, 144, 145, 130, 131, 132, 133, 134, 135, 136, 137, 138, 139, 140] (by decide +kernel) (by decide +kernel)) (goodIn_sub (fun _ h => List.mem_cons_of_mem _ (List.mem_append_left _ (List.mem_append_right _ h))) (by decide +kernel))
set_option maxRecDepth 20000 in
theorem gL_of_X4_extents : GoodIn wsL_of (wsV RL 54 RX4 yX4_extents wsX4_extents) := goodIn_app (goodIn_of _ (by decide +kernel)) ggL_of_X4_extents
set_option maxRecDepth 20000 in
theorem ggL_of_X4_extent : GoodIn wsL_of wsX4_extent := goodIn_ca (goodIn_r _ [39, 12, 13, 8, 9, 10, 6, 11, 14, 40, 20, 41, 42, 23, 24, 25, 26, 27, 28, 29, 30, 31, 32, 33, 34, 35, 43, 44, 45, 130, 131, 132, 133, 134, 135, 136, 137, 138, 139, 140, 141, 142, 143, 144, 145] (by decide +kernel) (by decide +kernel)) (goodIn_sub (fun _ h => List.mem_cons_of_mem _ (List.mem_append_left _ (List.mem_append_right _ h))) (by decide +kernel))
set_option maxRecDepth 20000 in
theorem gL_of_X4_extent : GoodIn wsL_of (wsV RL 57 RX4 yX4_extent wsX4_extent) := goodIn_app (goodIn_of _ (by decide +kernel)) ggL_of_X4_extent
set_option maxRecDepth 20000 in
theorem ggL_of_X4_blockAt : GoodIn wsL_of wsX4_blockAt := goodIn_ca (goodIn_ca (goodIn_r _ [49, 8, 9, 10, 6, 11, 12, 13, 14, 50, 51, 52, 53, 54, 130, 131, 132, 133, 134, 135, 136, 137, 138, 139, 140, 141, 142, 143, 144, 145] (by decide +kernel) (by decide +kernel)) (goodIn_sub (fun _ h => List.mem_cons_of_mem _ (List.mem_append_left _ (List.mem_append_right _ h))) (by decide +kernel))) (goodIn_sub (fun _ h => List.mem_cons_of_mem _ (List.mem_append_right _ h)) (by decide +kernel))
set_option maxRecDepth 20000 in
theorem gL_of_X4_blockAt : GoodIn wsL_of (wsV RL 60 RX4 yX4_blockAt wsX4_blockAt) := goodIn_app (goodIn_of _ (by decide +kernel)) ggL_of_X4_blockAt
set_option maxRecDepth 20000 in
theorem ggL_of_X4_pieces : GoodIn wsL_of wsX4_pieces := goodIn_ca (goodIn_ca (goodIn_r _ [58, 12, 13, 59, 50, 51, 6, 52, 53, 54, 60, 61, 62, 63, 64, 65, 66, 67, 68, 69, 70, 71, 72, 141, 142, 143, 144, 145, 146, 147] (by decide +kernel) (by decide +kernel)) (goodIn_sub (fun _ h => List.mem_cons_of_mem _ (List.mem_append_left _ (List.mem_append_right _ h))) (by decide +kernel))) (goodIn_sub (fun _ h => List.mem_cons_of_mem _ (List.mem_append_right _ h)) (by decide +kernel))
set_option maxRecDepth 20000 in
theorem gL_of_X4_pieces : GoodIn wsL_of (wsV RL 63 RX4 yX4_pieces wsX4_pieces) := goodIn_app (goodIn_of _ (by decide +kernel)) ggL_of_X4_pieces
set_option maxRecDepth 20000 in
theorem ggL_of_X4_fileOf : GoodIn wsL_of wsX4_fileOf := goodIn_ca (goodIn_r _ [76, 77, 78, 79, 6, 80, 50, 51, 52, 53, 54, 81, 82, 83, 84, 85, 86, 87, 88, 89, 90, 91, 92, 93, 94, 95, 96, 97, 98, 99, 100, 101, 102, 103, 104, 105, 106, 107, 108, 109, 110, 111, 112, 113, 114, 115, 116, 117, 118, 141, 142, 143, 144, 145, 148, 149, 150, 151, 152, 153, 154, 155, 156] (by decide +kernel) (by decide +kernel)) (goodIn_sub (fun _ h => List.mem_cons_of_mem _ (List.mem_append_right _ h)) (by decide +kernel))
set_option maxRecDepth 20000 in
theorem gL_of_X4_fileOf : GoodIn wsL_of (wsV RL 66 RX4 yX4_fileOf wsX4_fileOf) := goodIn_app (goodIn_of _ (by decide +kernel)) ggL_of_X4_fileOf
set_option maxRecDepth 20000 in
theorem ggL_of_X4_looks : GoodIn wsL_of wsX4_looks := goodIn_ca (goodIn_r _ [122, 77, 78, 79, 6, 80, 50, 51, 52, 53, 54, 123, 82, 124, 125, 85, 86, 87, 88, 89, 90, 91, 92, 93, 94, 95, 96, 97, 98, 99, 100, 101, 102, 103, 104, 105, 106, 107, 108, 109, 110, 111, 112, 113, 114, 141, 142, 143, 144, 145, 148, 149, 150, 151, 152, 153, 154, 155, 156] (by decide +kernel) (by decide +kernel)) (goodIn_sub (fun _ h => List.mem_cons_of_mem _ (List.mem_append_right _ h)) (by decide +kernel))
set_option maxRecDepth 20000 in
theorem gL_of_X4_looks : GoodIn wsL_of (wsV RL 69 RX4 yX4_looks wsX4_looks) := goodIn_app (goodIn_of _ (by decide +kernel)) ggL_of_X4_looks
set_option maxRecDepth 20000 in
theorem ggL_of_X4_isFree : GoodIn wsL_of wsX4_isFree := goodIn_ca (goodIn_r _ [129, 12, 13, 59, 69, 61, 70, 71, 72, 141, 142, 143, 144, 145, 146, 147] (by decide +kernel) (by decide +kernel)) (goodIn_sub (fun _ h => List.mem_cons_of_mem _ (List.mem_append_left _ (List.mem_append_right _ h))) (by decide +kernel))
set_option maxRecDepth 20000 in
theorem gL_of_X4_isFree : GoodIn wsL_of (wsV RL 72 RX4 yX4_isFree wsX4_isFree) := goodIn_app (goodIn_of _ (by decide +kernel)) ggL_of_X4_isFree
set_option maxRecDepth 20000 in
theorem ggL_areAlike_X4_isDown : GoodIn wsL_areAlike wsX4_isDown := goodIn_r _ [5, 6, 170, 171, 172, 173, 174] (by decide +kernel) (by decide +kernel)
set_option maxRecDepth 20000 in
theorem gL_areAlike_X4_isDown : GoodIn wsL_areAlike (wsV RL 76 RX4 yX4_isDown wsX4_isDown) := goodIn_app (goodIn_of _ (by decide +kernel)) ggL_areAlike_X4_isDown
set_option maxRecDepth 20000 in
theorem ggL_areAlike_X4_files : GoodIn wsL_areAlike wsX4_files := goodIn_r _ [10, 11, 170, 171, 172, 173, 174, 175, 176, 177, 178, 179, 180, 181, 182, 183, 184, 185] (by decide +kernel) (by decide +kernel)
set_option maxRecDepth 20000 in
theorem gL_areAlike_X4_files : GoodIn wsL_areAlike (wsV RL 80 RX4 yX4_files wsX4_files) := goodIn_app (goodIn_of _ (by decide +kernel)) ggL_areAlike_X4_files
set_option maxRecDepth 20000 in
theorem ggL_areAlike_X4_listed : GoodIn wsL_areAlike wsX4_listed := goodIn_r _ [15, 11, 170, 171, 172, 173, 174, 175, 176, 177, 178, 179, 180, 181, 182, 183, 184, 185] (by decide +kernel) (by decide +kernel)
set_option maxRecDepth 20000 in
theorem gL_areAlike_X4_listed : GoodIn wsL_areAlike (wsV RL 83 RX4 yX4_listed wsX4_listed) := goodIn_app (goodIn_of _ (by decide +kernel)) ggL_areAlike_X4_listed
set_option maxRecDepth 20000 in
theorem ggL_areAlike_X4_free : GoodIn wsL_areAlike wsX4_free := goodIn_r _ [19, 20, 170, 171, 172, 173, 174, 186, 187] (by decide +kernel) (by decide +kernel)
set_option maxRecDepth 20000 in
theorem gL_areAlike_X4_free : GoodIn wsL_areAlike (wsV RL 86 RX4 yX4_free wsX4_free) := goodIn_app (goodIn_of _ (by decide +kernel)) ggL_areAlike_X4_free
set_option maxRecDepth 20000 in
theorem ggL_areAlike_X4_freeByFiles : GoodIn wsL_areAlike wsX4_freeByFiles := goodIn_r _ [24, 11, 25, 26, 27, 28, 29, 170, 171, 172, 173, 174, 175, 176, 177, 178, 179, 180, 181, 182, 183, 184, 185] (by decide +kernel) (by decide +kernel)
set_option maxRecDepth 20000 in
theorem gL_areAlike_X4_freeByFiles : GoodIn wsL_areAlike (wsV RL 89 RX4 yX4_freeByFiles wsX4_freeByFiles) := goodIn_app (goodIn_of _ (by decide +kernel)) ggL_areAlike_X4_freeByFiles
set_option maxRecDepth 20000 in
theorem ggL_areAlike_X4_reserved : GoodIn wsL_areAlike wsX4_reserved := goodIn_r _ [33, 11, 170, 171, 172, 173, 174, 175, 176, 177, 178, 179, 180, 181, 182, 183, 184, 185] (by decide +kernel) (by decide +kernel)
set_option maxRecDepth 20000 in
theorem gL_areAlike_X4_reserved : GoodIn wsL_areAlike (wsV RL 92 RX4 yX4_reserved wsX4_reserved) := goodIn_app (goodIn_of _ (by decide +kernel)) ggL_areAlike_X4_reserved
set_option maxRecDepth 20000 in
theorem ggL_areAlike_X4_kept : GoodIn wsL_areAlike wsX4_kept := goodIn_r _ [37, 11, 170, 171, 172, 173, 174, 175, 176, 177, 178, 179, 180, 181, 182, 183, 184, 185] (by decide +kernel) (by decide +kernel)
set_option maxRecDepth 20000 in
theorem gL_areAlike_X4_kept : GoodIn wsL_areAlike (wsV RL 95 RX4 yX4_kept wsX4_kept) := goodIn_app (goodIn_of _ (by decide +kernel)) ggL_areAlike_X4_kept
set_option maxRecDepth 20000 in
theorem ggL_areAlike_X4_leaves : GoodIn wsL_areAlike wsX4_leaves := goodIn_r _ [41, 42, 170, 171, 172, 173, 174, 188, 189] (by decide +kernel) (by decide +kernel)
set_option maxRecDepth 20000 in
theorem gL_areAlike_X4_leaves : GoodIn wsL_areAlike (wsV RL 98 RX4 yX4_leaves wsX4_leaves) := goodIn_app (goodIn_of _ (by decide +kernel)) ggL_areAlike_X4_leaves
set_option maxRecDepth 20000 in
theorem ggL_areAlike_L_of : GoodIn wsL_areAlike wsL_of := goodIn_ca (goodIn_ca (goodIn_r _ [46, 47, 48, 49, 50, 51, 4, 52, 53, 54, 55, 56, 57, 58, 11, 59, 60, 61, 62, 63, 26, 64, 65, 66, 67, 68, 69, 70, 71, 72, 73, 29, 74, 75, 76, 77, 78, 79, 80, 81, 82, 83, 84, 85, 86, 87, 88, 89, 90, 91, 92, 93, 94, 95, 96, 97, 98, 99, 100, 20, 101, 102, 103, 104, 105, 106, 107, 108, 109, 110, 111, 112, 113, 114, 115, 116, 117, 42, 118, 119, 120, 121, 122, 123, 124, 125, 126, 127, 128, 129, 130, 131, 132, 133, 134, 135, 136, 137, 138, 139, 140, 141, 142, 143, 144, 145, 146, 147, 148, 149, 150, 151, 152, 153, 154, 155, 156, 157, 158, 159, 160, 161, 162, 163, 164, 165, 166, 167, 168, 169, 175, 176, 177, 178, 179, 180, 181, 182, 183, 184, 185, 170, 171, 172, 173, 174, 186, 187, 190, 191, 192, 193, 194, 195, 196, 188, 189] (by decide +kernel) (by decide +kernel)) (goodIn_sub (fun _ h => List.mem_cons_of_mem _ (List.mem_append_left _ (List.mem_append_right _ h))) (by decide +kernel))) (goodIn_sub (fun _ h => List.mem_cons_of_mem _ (List.mem_append_right _ h)) (by decide +kernel))
set_option maxRecDepth 20000 in
theorem gL_areAlike_L_of : GoodIn wsL_areAlike (va_wsS RL 101 yL_of wsL_of) := goodIn_app (goodIn_of _ (by decide +kernel)) ggL_areAlike_L_of
set_option maxRecDepth 20000 in
theorem ggL_law_X4_init : GoodIn wsL_law wsX4_init := goodIn_r _ [5, 6, 7, 8, 9, 10, 11, 12, 13, 14, 15, 16, 17, 18, 19, 20, 21, 22, 23, 24, 25, 26, 27, 28, 29, 30, 31, 32, 33, 34, 35, 36, 37, 38, 39, 40, 41, 42, 43, 44, 45, 46, 47, 48, 49, 50, 51, 52, 53, 54, 55, 56, 57, 58, 59, 60, 61, 62, 63, 64, 65, 432, 433, 427, 428, 429, 430, 431, 434, 435, 436, 437, 438, 439, 440, 441, 442, 443, 444, 445, 446, 447, 448, 449, 450, 451, 452, 453] (by decide +kernel) (by decide +kernel)
set_option maxRecDepth 20000 in
theorem gL_law_X4_init : GoodIn wsL_law (wsX4_init) := ggL_law_X4_init
set_option maxRecDepth 20000 in
theorem ggL_law_L_drawn : GoodIn wsL_law wsL_drawn := goodIn_r _ [69, 70] (by decide +kernel) (by decide +kernel)
set_option maxRecDepth 20000 in
theorem gL_law_L_drawn : GoodIn wsL_law (va_wsS RL 108 yL_drawn wsL_drawn) := goodIn_app (goodIn_of _ (by decide +kernel)) ggL_law_L_drawn
set_option maxRecDepth 20000 in
theorem ggL_law_L_does : GoodIn wsL_law wsL_does := goodIn_ca (goodIn_ca (goodIn_ca (goodIn_r _ [73, 74, 75, 76, 77, 78, 79, 2, 80, 81, 82, 16, 18, 83, 84, 85, 86, 87, 88, 89, 90, 91, 92, 93, 94, 20, 95, 96, 97, 98, 99, 15, 100, 101, 102, 103, 104, 105, 106, 107, 108, 109, 110, 111, 112, 113, 114, 115, 35, 116, 34, 117, 118, 47, 46, 119, 120, 121, 122, 123, 124, 125, 43, 41, 126, 127, 128, 42, 129, 130, 131, 36, 132, 133, 134, 135, 136, 137, 138, 33, 139, 37, 38, 39, 7, 8, 40, 44, 45, 140, 141, 142, 143, 144, 145, 146, 147, 148, 149, 150, 151, 22, 152, 153, 52, 154, 155, 156, 157, 158, 159, 160, 161, 162, 163, 164, 165, 166, 167, 168, 169, 170, 171, 172, 173, 174, 175, 176, 177, 178, 179, 180, 181, 182, 51, 54, 183, 184, 185, 186, 12, 187, 11, 188, 189, 190, 191, 192, 193, 27, 28, 194, 195, 196, 197, 198, 199, 200, 201, 202, 203, 204, 205, 206, 207, 208, 19, 209, 210, 211, 212, 213, 214, 215, 216, 217, 218, 219, 220, 221, 222, 223, 224, 225, 226, 227, 228, 229, 230, 231, 232, 233, 234, 235, 236, 237, 238, 239, 240, 241, 242, 243, 244, 57, 55, 245, 246, 247, 248, 249, 250, 251, 56, 252, 253, 254, 255, 256, 257, 258, 259, 260, 261, 262, 263, 264, 265, 266, 267, 268, 269, 270, 271, 272, 273, 274, 275, 276, 277, 278, 279, 280, 281, 282, 283, 284, 285, 286, 287, 288, 289, 290, 291, 292, 293, 294, 295, 296, 297, 298, 299, 300, 301, 302, 303, 304, 305, 306, 307, 308, 309, 310, 427, 428, 429, 430, 431, 436, 437, 438, 439, 440, 441, 442, 443, 444, 445, 446, 447, 448, 449, 450, 451, 452, 453, 434, 435, 432, 433] (by decide +kernel) (by decide +kernel)) (goodIn_sub (fun _ h => List.mem_append_left _ (List.mem_append_left _ (List.mem_append_right _ h))) (by decide +kernel))) (goodIn_sub (fun _ h => List.mem_append_left _ (List.mem_append_right _ h)) (by decide +kernel))) (goodIn_sub (fun _ h => List.mem_append_right _ h) (by decide +kernel))
set_option maxRecDepth 20000 in
theorem gL_law_L_does : GoodIn wsL_law (va_wsS RL 112 yL_does wsL_does) := goodIn_app (goodIn_of _ (by decide +kernel)) ggL_law_L_does
set_option maxRecDepth 20000 in
theorem ggL_law_L_write : GoodIn wsL_law wsL_write := goodIn_ca (goodIn_ca (goodIn_ca (goodIn_r _ [313, 74, 75, 76, 314, 315, 316, 2, 317, 166, 167, 168, 169, 170, 171, 18, 86, 87, 88, 89, 90, 91, 92, 93, 94, 81, 82, 20, 176, 177, 178, 179, 180, 22, 181, 182, 51, 54, 183, 184, 185, 186, 12, 187, 11, 188, 189, 190, 191, 192, 193, 27, 28, 194, 195, 196, 197, 198, 199, 200, 201, 202, 203, 204, 205, 206, 207, 208, 19, 209, 210, 211, 212, 213, 214, 215, 216, 318, 319, 320, 321, 322, 323, 324, 273, 274, 275, 276, 277, 278, 279, 280, 281, 282, 283, 284, 325, 326, 327, 328, 329, 330, 331, 427, 428, 429, 430, 431, 436, 437, 438, 439, 440, 441, 442, 443, 444, 445, 446, 432, 433] (by decide +kernel) (by decide +kernel)) (goodIn_sub (fun _ h => List.mem_append_right _ h) (by decide +kernel))) (goodIn_sub (fun _ h => List.mem_append_left _ (List.mem_append_right _ h)) (by decide +kernel))) (goodIn_sub (fun _ h => List.mem_append_left _ (List.mem_append_left _ (List.mem_append_right _ h))) (by decide +kernel))
set_option maxRecDepth 20000 in
theorem gL_law_L_write : GoodIn wsL_law (va_wsS RL 116 yL_write wsL_write) := goodIn_app (goodIn_of _ (by decide +kernel)) ggL_law_L_write
set_option maxRecDepth 20000 in
theorem ggL_law_L_crashes : GoodIn wsL_law wsL_crashes := goodIn_ca (goodIn_ca (goodIn_r _ [334, 75, 76, 335, 336, 337, 2, 338, 19, 86, 87, 88, 89, 90, 91, 92, 93, 94, 81, 82, 20, 427, 428, 429, 430, 431] (by decide +kernel) (by decide +kernel)) (goodIn_sub (fun _ h => List.mem_append_left _ (List.mem_append_right _ h)) (by decide +kernel))) (goodIn_sub (fun _ h => List.mem_append_left _ (List.mem_append_left _ (List.mem_append_right _ h))) (by decide +kernel))
set_option maxRecDepth 20000 in
theorem gL_law_L_crashes : GoodIn wsL_law (va_wsS RL 118 yL_crashes wsL_crashes) := goodIn_app (goodIn_of _ (by decide +kernel)) ggL_law_L_crashes
set_option maxRecDepth 20000 in
theorem ggL_law_L_crash : GoodIn wsL_law wsL_crash := goodIn_ca (goodIn_r _ [341, 76, 342, 343, 344, 2, 345, 91, 92, 93, 94, 81, 82, 20, 209, 210, 211, 212, 19, 18, 213, 214, 215, 216, 183, 184, 185, 186, 12, 187, 11, 188, 189, 190, 191, 192, 193, 27, 28, 180, 22, 181, 182, 51, 54, 427, 428, 429, 430, 431, 436, 437, 438, 439, 440, 441, 442, 443, 444, 445, 446, 432, 433] (by decide +kernel) (by decide +kernel)) (goodIn_sub (fun _ h => List.mem_append_left _ (List.mem_append_left _ (List.mem_append_right _ h))) (by decide +kernel))
set_option maxRecDepth 20000 in
theorem gL_law_L_crash : GoodIn wsL_law (va_wsS RL 122 yL_crash wsL_crash) := goodIn_app (goodIn_of _ (by decide +kernel)) ggL_law_L_crash
set_option maxRecDepth 20000 in
theorem ggL_law_L_areAlike : GoodIn wsL_law wsL_areAlike := goodIn_ca (goodIn_ca (goodIn_r _ [348, 349, 350, 351, 2, 352, 20, 353, 354, 355, 356, 18, 357, 308, 309, 310, 358, 278, 279, 280, 12, 359, 360, 361, 362, 363, 22, 364, 365, 51, 366, 282, 283, 284, 367, 326, 327, 328, 368, 369, 370, 371, 16, 372, 373, 68, 374, 74, 75, 375, 376, 377, 378, 166, 167, 168, 169, 170, 171, 379, 380, 381, 382, 383, 384, 385, 386, 387, 388, 389, 204, 194, 195, 196, 390, 201, 202, 203, 391, 392, 393, 394, 395, 396, 397, 398, 399, 400, 401, 402, 403, 404, 86, 87, 88, 89, 90, 405, 406, 407, 408, 409, 11, 410, 411, 296, 297, 298, 299, 288, 289, 290, 291, 27, 412, 413, 414, 415, 83, 84, 85, 99, 15, 100, 101, 102, 103, 104, 105, 106, 107, 108, 109, 110, 111, 112, 113, 114, 115, 35, 116, 34, 117, 118, 47, 46, 119, 120, 121, 122, 123, 124, 125, 43, 41, 126, 127, 128, 42, 416, 417, 418, 419, 420, 421, 422, 423, 424, 425, 426, 427, 428, 429, 430, 431, 436, 437, 438, 439, 440, 441, 442, 443, 444, 445, 446, 432, 433, 434, 435, 447, 448, 449, 450, 451, 452, 453] (by decide +kernel) (by decide +kernel)) (goodIn_sub (fun _ h => List.mem_append_right _ h) (by decide +kernel))) (goodIn_sub (fun _ h => List.mem_append_left _ (List.mem_append_right _ h)) (by decide +kernel))
set_option maxRecDepth 20000 in
theorem gL_law_L_areAlike : GoodIn wsL_law (va_wsS RL 125 yL_areAlike wsL_areAlike) := goodIn_app (goodIn_of _ (by decide +kernel)) ggL_law_L_areAlike
