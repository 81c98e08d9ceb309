set_option maxRecDepth 20000 in
theorem ggL_law_X4_init : GoodIn wsL_law wsX4_init := goodIn_r _ [10, 11, 12, 13, 14, 15, 16, 17, 18, 19, 20, 21, 22, 23, 24, 25, 26, 27, 28, 29, 30, 31, 32, 33, 34, 35, 36, 37, 38, 39, 40, 41, 42, 43, 44, 45, 46, 47, 48, 49, 50, 51, 52, 53, 54, 55, 56, 57, 58, 59, 60, 61, 62, 63, 64, 65, 66, 67, 68, 69, 70, 744, 745, 721, 722, 723, 724, 725, 746, 747, 748, 749, 750, 751, 752, 753, 754, 755, 756, 757, 758, 759, 760, 761, 762, 763, 764, 765] (by decide +kernel) (by decide +kernel)
set_option maxRecDepth 20000 in
theorem gL_law_X4_init : GoodIn wsL_law (wsX4_init) := ggL_law_X4_init
set_option maxRecDepth 20000 in
theorem ggL_law_X5_init : GoodIn wsL_law wsX5_init := goodIn_r _ [73, 74, 12, 13, 31, 75, 76, 45, 77, 78, 79, 80, 81, 82, 83, 84, 85, 86, 87, 88, 89, 726, 727, 728, 729, 730, 731, 732, 733, 734, 735, 736, 737, 738, 739, 740, 741, 742, 743] (by decide +kernel) (by decide +kernel)
set_option maxRecDepth 20000 in
theorem gL_law_X5_init : GoodIn wsL_law (wsX5_init) := ggL_law_X5_init
set_option maxRecDepth 20000 in
theorem ggL_law_L_create : GoodIn wsL_law wsL_create := goodIn_ca (goodIn_ca (goodIn_r _ [93, 94, 95, 96, 97, 98, 2, 99, 100, 101, 21, 23, 102, 103, 104, 105, 106, 107, 108, 109, 110, 111, 112, 113, 25, 114, 115, 116, 117, 118, 20, 119, 120, 121, 122, 123, 124, 125, 126, 127, 128, 129, 130, 131, 132, 133, 134, 40, 135, 39, 136, 137, 52, 51, 138, 139, 140, 141, 142, 143, 144, 48, 46, 145, 146, 147, 47, 148, 149, 150, 41, 151, 152, 153, 154, 155, 156, 157, 38, 158, 42, 43, 44, 12, 13, 45, 49, 50, 159, 160, 161, 162, 163, 164, 165, 166, 167, 168, 169, 170, 27, 171, 172, 57, 721, 722, 723, 724, 725, 748, 749, 750, 751, 752, 753, 754, 755, 756, 757, 758, 759, 760, 761, 762, 763, 764, 765, 746, 747] (by decide +kernel) (by decide +kernel)) (goodIn_sub (fun _ h => List.mem_append_left _ (List.mem_append_left _ (List.mem_append_right _ h))) (by decide +kernel))) (goodIn_sub (fun _ h => List.mem_append_left _ (List.mem_append_right _ h)) (by decide +kernel))
set_option maxRecDepth 20000 in
theorem gL_law_L_create : GoodIn wsL_law (va_wsS RL 83 yL_create wsL_create) := goodIn_app (goodIn_of _ (by decide +kernel)) ggL_law_L_create
set_option maxRecDepth 20000 in
theorem ggL_law_X5_create : GoodIn wsL_law wsX5_create := goodIn_r _ [176, 76, 177, 84, 178, 179, 5, 180, 181, 182, 183, 184, 185, 186, 187, 188, 189, 190, 191, 192, 88, 87, 193, 194, 195, 196, 197, 198, 199, 89, 85, 200, 201, 202, 203, 86, 204, 205, 206, 726, 727, 728, 729, 730, 731, 732, 733, 734, 735, 736, 737, 738, 739, 740, 741, 742, 743] (by decide +kernel) (by decide +kernel)
set_option maxRecDepth 20000 in
theorem gL_law_X5_create : GoodIn wsL_law (wsV RL 88 RX5 yX5_create wsX5_create) := goodIn_app (goodIn_of _ (by decide +kernel)) ggL_law_X5_create
set_option maxRecDepth 20000 in
theorem ggL_law_X5_thrown : GoodIn wsL_law wsX5_thrown := goodIn_r _ [210, 188, 726, 727, 728, 729, 730, 731, 732, 733, 734, 735, 736, 737, 738, 739, 740, 741, 742, 743] (by decide +kernel) (by decide +kernel)
set_option maxRecDepth 20000 in
theorem gL_law_X5_thrown : GoodIn wsL_law (wsV RL 89 RX5 yX5_thrown wsX5_thrown) := goodIn_app (goodIn_of _ (by decide +kernel)) ggL_law_X5_thrown
set_option maxRecDepth 20000 in
theorem ggL_law_L_open : GoodIn wsL_law wsL_open := goodIn_ca (goodIn_ca (goodIn_r _ [213, 94, 95, 214, 215, 216, 2, 217, 23, 102, 103, 104, 105, 106, 107, 108, 109, 110, 111, 112, 113, 100, 101, 25, 218, 219, 220, 221, 21, 118, 20, 119, 120, 121, 122, 123, 124, 125, 126, 127, 128, 129, 130, 131, 132, 133, 134, 40, 135, 39, 136, 137, 52, 51, 138, 139, 140, 141, 142, 143, 144, 48, 46, 145, 146, 147, 47, 721, 722, 723, 724, 725, 748, 749, 750, 751, 752, 753, 754, 755, 756, 757, 758, 759, 760, 761, 762, 763, 764, 765, 746, 747] (by decide +kernel) (by decide +kernel)) (goodIn_sub (fun _ h => List.mem_append_left _ (List.mem_append_right _ h)) (by decide +kernel))) (goodIn_sub (fun _ h => List.mem_append_left _ (List.mem_append_left _ (List.mem_append_right _ h))) (by decide +kernel))
set_option maxRecDepth 20000 in
theorem gL_law_L_open : GoodIn wsL_law (va_wsS RL 92 yL_open wsL_open) := goodIn_app (goodIn_of _ (by decide +kernel)) ggL_law_L_open
set_option maxRecDepth 20000 in
theorem ggL_law_X5_open : GoodIn wsL_law wsX5_open := goodIn_r _ [225, 177, 84, 78, 178, 179, 5, 180, 181, 182, 183, 184, 185, 186, 187, 188, 726, 727, 728, 729, 730, 731, 732, 733, 734, 735, 736, 737, 738, 739, 740, 741, 742, 743] (by decide +kernel) (by decide +kernel)
set_option maxRecDepth 20000 in
theorem gL_law_X5_open : GoodIn wsL_law (wsV RL 94 RX5 yX5_open wsX5_open) := goodIn_app (goodIn_of _ (by decide +kernel)) ggL_law_X5_open
set_option maxRecDepth 20000 in
theorem ggL_law_L_close : GoodIn wsL_law wsL_close := goodIn_ca (goodIn_ca (goodIn_r _ [228, 229, 95, 230, 231, 232, 2, 233, 100, 101, 234, 235, 236, 237, 238, 239, 23, 110, 111, 112, 113, 25, 240, 241, 242, 243, 244, 245, 246, 247, 248, 27, 249, 250, 56, 59, 251, 252, 253, 254, 17, 255, 16, 256, 257, 258, 259, 260, 261, 32, 33, 262, 263, 264, 265, 266, 267, 268, 269, 270, 271, 272, 273, 274, 275, 276, 24, 277, 278, 279, 280, 281, 282, 283, 284, 748, 749, 750, 751, 752, 753, 754, 755, 756, 757, 758, 721, 722, 723, 724, 725, 744, 745] (by decide +kernel) (by decide +kernel)) (goodIn_sub (fun _ h => List.mem_append_left _ (List.mem_append_left _ (List.mem_append_right _ h))) (by decide +kernel))) (goodIn_sub (fun _ h => List.mem_append_right _ h) (by decide +kernel))
set_option maxRecDepth 20000 in
theorem gL_law_L_close : GoodIn wsL_law (va_wsS RL 95 yL_close wsL_close) := goodIn_app (goodIn_of _ (by decide +kernel)) ggL_law_L_close
set_option maxRecDepth 20000 in
theorem ggL_law_X5_close : GoodIn wsL_law wsX5_close := goodIn_r _ [288, 177, 78, 83, 289, 290, 291, 5, 292, 76, 181, 182, 183, 184, 185, 186, 187, 188, 293, 294, 295, 296, 297, 298, 299, 300, 77, 301, 82, 302, 303, 304, 305, 80, 75, 79, 306, 307, 308, 309, 310, 311, 312, 313, 726, 727, 728, 729, 730, 731, 732, 733, 734, 735, 736, 737, 738, 739, 740, 741, 742, 743] (by decide +kernel) (by decide +kernel)
set_option maxRecDepth 20000 in
theorem gL_law_X5_close : GoodIn wsL_law (wsV RL 97 RX5 yX5_close wsX5_close) := goodIn_app (goodIn_of _ (by decide +kernel)) ggL_law_X5_close
set_option maxRecDepth 20000 in
theorem ggL_law_L_delete : GoodIn wsL_law wsL_delete := goodIn_ca (goodIn_ca (goodIn_r _ [316, 94, 95, 317, 318, 319, 2, 320, 23, 21, 102, 103, 104, 105, 106, 107, 108, 109, 110, 111, 112, 113, 100, 101, 25, 218, 219, 220, 221, 118, 20, 119, 120, 121, 122, 123, 124, 125, 126, 127, 128, 129, 130, 131, 132, 133, 134, 40, 135, 39, 136, 137, 52, 51, 138, 139, 140, 141, 142, 143, 144, 48, 46, 145, 146, 147, 47, 321, 322, 323, 324, 325, 326, 240, 241, 242, 243, 244, 245, 246, 247, 248, 27, 249, 250, 56, 59, 251, 252, 253, 254, 17, 255, 16, 256, 257, 258, 259, 260, 261, 32, 33, 262, 263, 264, 265, 266, 267, 268, 269, 270, 271, 272, 273, 274, 275, 276, 24, 277, 278, 279, 280, 281, 282, 283, 284, 721, 722, 723, 724, 725, 748, 749, 750, 751, 752, 753, 754, 755, 756, 757, 758, 759, 760, 761, 762, 763, 764, 765, 746, 747, 744, 745] (by decide +kernel) (by decide +kernel)) (goodIn_sub (fun _ h => List.mem_append_left _ (List.mem_append_right _ h)) (by decide +kernel))) (goodIn_sub (fun _ h => List.mem_append_left _ (List.mem_append_left _ (List.mem_append_right _ h))) (by decide +kernel))
set_option maxRecDepth 20000 in
theorem gL_law_L_delete : GoodIn wsL_law (va_wsS RL 98 yL_delete wsL_delete) := goodIn_app (goodIn_of _ (by decide +kernel)) ggL_law_L_delete
set_option maxRecDepth 20000 in
theorem ggL_law_X5_delete : GoodIn wsL_law wsX5_delete := goodIn_r _ [330, 177, 84, 83, 78, 178, 179, 5, 180, 181, 182, 183, 184, 185, 186, 187, 188, 331, 332, 333, 334, 87, 88, 335, 336, 337, 338, 86, 85, 193, 194, 195, 196, 197, 198, 199, 89, 339, 340, 341, 342, 343, 344, 345, 346, 293, 294, 295, 296, 76, 297, 298, 299, 300, 77, 301, 82, 302, 303, 304, 305, 80, 75, 79, 306, 307, 308, 309, 310, 311, 312, 313, 726, 727, 728, 729, 730, 731, 732, 733, 734, 735, 736, 737, 738, 739, 740, 741, 742, 743] (by decide +kernel) (by decide +kernel)
set_option maxRecDepth 20000 in
theorem gL_law_X5_delete : GoodIn wsL_law (wsV RL 100 RX5 yX5_delete wsX5_delete) := goodIn_app (goodIn_of _ (by decide +kernel)) ggL_law_X5_delete
set_option maxRecDepth 20000 in
theorem ggL_law_L_write : GoodIn wsL_law wsL_write := goodIn_ca (goodIn_ca (goodIn_ca (goodIn_r _ [349, 229, 94, 95, 350, 351, 352, 2, 353, 100, 101, 234, 235, 236, 237, 238, 239, 23, 105, 106, 107, 108, 109, 110, 111, 112, 113, 25, 354, 27, 355, 356, 56, 357, 358, 359, 360, 361, 362, 363, 364, 17, 365, 366, 367, 368, 369, 370, 371, 372, 281, 282, 283, 284, 251, 252, 253, 254, 255, 16, 256, 257, 258, 259, 260, 261, 32, 33, 373, 374, 375, 59, 721, 722, 723, 724, 725, 748, 749, 750, 751, 752, 753, 754, 755, 756, 757, 758, 744, 745] (by decide +kernel) (by decide +kernel)) (goodIn_sub (fun _ h => List.mem_append_left _ (List.mem_append_left _ (List.mem_append_right _ h))) (by decide +kernel))) (goodIn_sub (fun _ h => List.mem_append_right _ h) (by decide +kernel))) (goodIn_sub (fun _ h => List.mem_append_left _ (List.mem_append_right _ h)) (by decide +kernel))
set_option maxRecDepth 20000 in
theorem gL_law_L_write : GoodIn wsL_law (va_wsS RL 101 yL_write wsL_write) := goodIn_app (goodIn_of _ (by decide +kernel)) ggL_law_L_write
set_option maxRecDepth 20000 in
theorem ggL_law_X5_write : GoodIn wsL_law wsX5_write := goodIn_r _ [379, 77, 177, 289, 290, 291, 5, 292, 76, 181, 182, 183, 380, 381, 382, 383, 384, 385, 386, 387, 75, 388, 389, 390, 391, 392, 393, 394, 395, 80, 396, 397, 398, 399, 188, 302, 303, 304, 305, 79, 726, 727, 728, 729, 730, 731, 732, 733, 734, 735, 736, 737, 738, 739, 740, 741, 742, 743] (by decide +kernel) (by decide +kernel)
set_option maxRecDepth 20000 in
theorem gL_law_X5_write : GoodIn wsL_law (wsV RL 104 RX5 yX5_write wsX5_write) := goodIn_app (goodIn_of _ (by decide +kernel)) ggL_law_X5_write
set_option maxRecDepth 20000 in
theorem ggL_law_L_flush : GoodIn wsL_law wsL_flush := goodIn_ca (goodIn_ca (goodIn_r _ [402, 229, 95, 403, 404, 405, 2, 406, 234, 235, 236, 237, 238, 239, 23, 110, 111, 112, 113, 100, 101, 25, 407, 27, 408, 409, 56, 410, 411, 412, 413, 414, 415, 416, 417, 418, 419, 420, 62, 60, 421, 422, 423, 424, 425, 426, 427, 61, 428, 429, 430, 431, 59, 432, 433, 434, 435, 436, 437, 438, 439, 17, 440, 441, 442, 443, 444, 262, 263, 264, 445, 446, 447, 448, 357, 358, 359, 360, 361, 362, 363, 364, 365, 366, 367, 368, 449, 16, 450, 451, 452, 453, 454, 455, 32, 456, 457, 458, 459, 460, 461, 462, 463, 464, 465, 466, 258, 259, 260, 261, 33, 251, 252, 253, 254, 255, 256, 257, 721, 722, 723, 724, 725, 748, 749, 750, 751, 752, 753, 754, 755, 756, 757, 758, 744, 745] (by decide +kernel) (by decide +kernel)) (goodIn_sub (fun _ h => List.mem_append_right _ h) (by decide +kernel))) (goodIn_sub (fun _ h => List.mem_append_left _ (List.mem_append_left _ (List.mem_append_right _ h))) (by decide +kernel))
set_option maxRecDepth 20000 in
theorem gL_law_L_flush : GoodIn wsL_law (va_wsS RL 105 yL_flush wsL_flush) := goodIn_app (goodIn_of _ (by decide +kernel)) ggL_law_L_flush
set_option maxRecDepth 20000 in
theorem ggL_law_X5_flush : GoodIn wsL_law wsX5_flush := goodIn_r _ [470, 177, 77, 289, 290, 291, 5, 292, 76, 181, 182, 183, 184, 185, 186, 187, 188, 471, 472, 473, 474, 80, 81, 79, 75, 380, 381, 382, 383, 384, 385, 386, 387, 388, 389, 390, 391, 475, 476, 477, 478, 479, 480, 481, 482, 302, 303, 304, 305, 726, 727, 728, 729, 730, 731, 732, 733, 734, 735, 736, 737, 738, 739, 740, 741, 742, 743] (by decide +kernel) (by decide +kernel)
set_option maxRecDepth 20000 in
theorem gL_law_X5_flush : GoodIn wsL_law (wsV RL 107 RX5 yX5_flush wsX5_flush) := goodIn_app (goodIn_of _ (by decide +kernel)) ggL_law_X5_flush
set_option maxRecDepth 20000 in
theorem ggL_law_L_cut : GoodIn wsL_law wsL_cut := goodIn_ca (goodIn_ca (goodIn_ca (goodIn_r _ [485, 229, 94, 95, 486, 487, 488, 2, 489, 234, 235, 236, 237, 238, 239, 23, 105, 106, 107, 108, 109, 110, 111, 112, 113, 100, 101, 25, 244, 245, 246, 247, 248, 27, 249, 250, 56, 59, 251, 252, 253, 254, 17, 255, 16, 256, 257, 258, 259, 260, 261, 32, 33, 262, 263, 264, 265, 266, 267, 268, 269, 270, 271, 272, 273, 274, 275, 276, 24, 277, 278, 279, 280, 281, 282, 283, 284, 721, 722, 723, 724, 725, 748, 749, 750, 751, 752, 753, 754, 755, 756, 757, 758, 744, 745] (by decide +kernel) (by decide +kernel)) (goodIn_sub (fun _ h => List.mem_append_right _ h) (by decide +kernel))) (goodIn_sub (fun _ h => List.mem_append_left _ (List.mem_append_right _ h)) (by decide +kernel))) (goodIn_sub (fun _ h => List.mem_append_left _ (List.mem_append_left _ (List.mem_append_right _ h))) (by decide +kernel))
set_option maxRecDepth 20000 in
theorem gL_law_L_cut : GoodIn wsL_law (va_wsS RL 108 yL_cut wsL_cut) := goodIn_app (goodIn_of _ (by decide +kernel)) ggL_law_L_cut
set_option maxRecDepth 20000 in
theorem ggL_law_X5_cut : GoodIn wsL_law wsX5_cut := goodIn_r _ [493, 177, 82, 289, 290, 291, 5, 292, 76, 181, 182, 183, 396, 397, 398, 399, 188, 297, 298, 299, 300, 77, 301, 302, 303, 304, 305, 80, 75, 79, 306, 307, 308, 309, 310, 311, 312, 313, 78, 726, 727, 728, 729, 730, 731, 732, 733, 734, 735, 736, 737, 738, 739, 740, 741, 742, 743] (by decide +kernel) (by decide +kernel)
set_option maxRecDepth 20000 in
theorem gL_law_X5_cut : GoodIn wsL_law (wsV RL 111 RX5 yX5_cut wsX5_cut) := goodIn_app (goodIn_of _ (by decide +kernel)) ggL_law_X5_cut
set_option maxRecDepth 20000 in
theorem ggL_law_L_crashBehind : GoodIn wsL_law wsL_crashBehind := goodIn_ca (goodIn_ca (goodIn_r _ [496, 94, 95, 497, 498, 499, 2, 500, 24, 105, 106, 107, 108, 109, 110, 111, 112, 113, 100, 101, 25, 721, 722, 723, 724, 725] (by decide +kernel) (by decide +kernel)) (goodIn_sub (fun _ h => List.mem_append_left _ (List.mem_append_right _ h)) (by decide +kernel))) (goodIn_sub (fun _ h => List.mem_append_left _ (List.mem_append_left _ (List.mem_append_right _ h))) (by decide +kernel))
set_option maxRecDepth 20000 in
theorem gL_law_L_crashBehind : GoodIn wsL_law (va_wsS RL 112 yL_crashBehind wsL_crashBehind) := goodIn_app (goodIn_of _ (by decide +kernel)) ggL_law_L_crashBehind
set_option maxRecDepth 20000 in
theorem ggL_law_X5_crashBehind : GoodIn wsL_law wsX5_crashBehind := goodIn_r _ [504, 177, 301, 181, 182, 5, 183, 184, 185, 186, 187, 188, 726, 727, 728, 729, 730, 731, 732, 733, 734, 735, 736, 737, 738, 739, 740, 741, 742, 743] (by decide +kernel) (by decide +kernel)
set_option maxRecDepth 20000 in
theorem gL_law_X5_crashBehind : GoodIn wsL_law (wsV RL 115 RX5 yX5_crashBehind wsX5_crashBehind) := goodIn_app (goodIn_of _ (by decide +kernel)) ggL_law_X5_crashBehind
set_option maxRecDepth 20000 in
theorem ggL_law_L_crash : GoodIn wsL_law wsL_crash := goodIn_ca (goodIn_r _ [507, 95, 508, 509, 510, 2, 511, 110, 111, 112, 113, 100, 101, 25, 277, 278, 279, 280, 24, 23, 281, 282, 283, 284, 251, 252, 253, 254, 17, 255, 16, 256, 257, 258, 259, 260, 261, 32, 33, 248, 27, 249, 250, 56, 59, 721, 722, 723, 724, 725, 748, 749, 750, 751, 752, 753, 754, 755, 756, 757, 758, 744, 745] (by decide +kernel) (by decide +kernel)) (goodIn_sub (fun _ h => List.mem_append_left _ (List.mem_append_left _ (List.mem_append_right _ h))) (by decide +kernel))
set_option maxRecDepth 20000 in
theorem gL_law_L_crash : GoodIn wsL_law (va_wsS RL 116 yL_crash wsL_crash) := goodIn_app (goodIn_of _ (by decide +kernel)) ggL_law_L_crash
set_option maxRecDepth 20000 in
theorem ggL_law_X5_crash : GoodIn wsL_law wsX5_crash := goodIn_r _ [515, 177, 516, 517, 518, 5, 519, 188, 310, 311, 312, 313, 77, 78, 301, 302, 303, 304, 305, 80, 75, 79, 726, 727, 728, 729, 730, 731, 732, 733, 734, 735, 736, 737, 738, 739, 740, 741, 742, 743] (by decide +kernel) (by decide +kernel)
set_option maxRecDepth 20000 in
theorem gL_law_X5_crash : GoodIn wsL_law (wsV RL 119 RX5 yX5_crash wsX5_crash) := goodIn_app (goodIn_of _ (by decide +kernel)) ggL_law_X5_crash
set_option maxRecDepth 20000 in
theorem ggL_law_L_start : GoodIn wsL_law wsL_start := goodIn_ca (goodIn_r _ [522, 95, 523, 524, 525, 2, 526, 100, 101, 25, 23, 527, 528, 529, 530, 240, 241, 242, 243, 244, 245, 246, 247, 248, 27, 249, 250, 56, 59, 251, 252, 253, 254, 17, 255, 16, 256, 257, 258, 259, 260, 261, 32, 33, 262, 263, 264, 265, 266, 267, 268, 269, 270, 271, 272, 273, 274, 275, 276, 24, 277, 278, 279, 280, 281, 282, 283, 284, 721, 722, 723, 724, 725, 748, 749, 750, 751, 752, 753, 754, 755, 756, 757, 758, 744, 745] (by decide +kernel) (by decide +kernel)) (goodIn_sub (fun _ h => List.mem_append_left _ (List.mem_append_left _ (List.mem_append_right _ h))) (by decide +kernel))
set_option maxRecDepth 20000 in
theorem gL_law_L_start : GoodIn wsL_law (va_wsS RL 120 yL_start wsL_start) := goodIn_app (goodIn_of _ (by decide +kernel)) ggL_law_L_start
set_option maxRecDepth 20000 in
theorem ggL_law_X5_start : GoodIn wsL_law wsX5_start := goodIn_r _ [534, 177, 83, 82, 516, 517, 518, 5, 519, 188, 293, 294, 295, 296, 76, 297, 298, 299, 300, 77, 301, 302, 303, 304, 305, 80, 75, 79, 306, 307, 308, 309, 310, 311, 312, 313, 78, 726, 727, 728, 729, 730, 731, 732, 733, 734, 735, 736, 737, 738, 739, 740, 741, 742, 743] (by decide +kernel) (by decide +kernel)
set_option maxRecDepth 20000 in
theorem gL_law_X5_start : GoodIn wsL_law (wsV RL 123 RX5 yX5_start wsX5_start) := goodIn_app (goodIn_of _ (by decide +kernel)) ggL_law_X5_start
set_option maxRecDepth 20000 in
theorem ggL_law_X4_isDown : GoodIn wsL_law wsX4_isDown := goodIn_r _ [538, 25, 721, 722, 723, 724, 725] (by decide +kernel) (by decide +kernel)
set_option maxRecDepth 20000 in
theorem gL_law_X4_isDown : GoodIn wsL_law (wsV RL 124 RX4 yX4_isDown wsX4_isDown) := goodIn_app (goodIn_of _ (by decide +kernel)) ggL_law_X4_isDown
set_option maxRecDepth 20000 in
theorem ggL_law_X5_isDown : GoodIn wsL_law wsX5_isDown := goodIn_r _ [542, 188, 177, 726, 727, 728, 729, 730, 731, 732, 733, 734, 735, 736, 737, 738, 739, 740, 741, 742, 743] (by decide +kernel) (by decide +kernel)
set_option maxRecDepth 20000 in
theorem gL_law_X5_isDown : GoodIn wsL_law (wsV RL 128 RX5 yX5_isDown wsX5_isDown) := goodIn_app (goodIn_of _ (by decide +kernel)) ggL_law_X5_isDown
set_option maxRecDepth 20000 in
theorem ggL_law_X4_files : GoodIn wsL_law wsX4_files := goodIn_r _ [546, 23, 721, 722, 723, 724, 725, 748, 749, 750, 751, 752, 753, 754, 755, 756, 757, 758] (by decide +kernel) (by decide +kernel)
set_option maxRecDepth 20000 in
theorem gL_law_X4_files : GoodIn wsL_law (wsV RL 129 RX4 yX4_files wsX4_files) := goodIn_app (goodIn_of _ (by decide +kernel)) ggL_law_X4_files
set_option maxRecDepth 20000 in
theorem ggL_law_X5_files : GoodIn wsL_law wsX5_files := goodIn_r _ [550, 76, 551, 552, 553, 5, 554, 188, 726, 727, 728, 729, 730, 731, 732, 733, 734, 735, 736, 737, 738, 739, 740, 741, 742, 743] (by decide +kernel) (by decide +kernel)
set_option maxRecDepth 20000 in
theorem gL_law_X5_files : GoodIn wsL_law (wsV RL 132 RX5 yX5_files wsX5_files) := goodIn_app (goodIn_of _ (by decide +kernel)) ggL_law_X5_files
set_option maxRecDepth 20000 in
theorem ggL_law_X4_listed : GoodIn wsL_law wsX4_listed := goodIn_r _ [530, 23, 721, 722, 723, 724, 725, 748, 749, 750, 751, 752, 753, 754, 755, 756, 757, 758] (by decide +kernel) (by decide +kernel)
set_option maxRecDepth 20000 in
theorem gL_law_X4_listed : GoodIn wsL_law (wsV RL 133 RX4 yX4_listed wsX4_listed) := goodIn_app (goodIn_of _ (by decide +kernel)) ggL_law_X4_listed
set_option maxRecDepth 20000 in
theorem ggL_law_X5_listed : GoodIn wsL_law wsX5_listed := goodIn_r _ [559, 83, 82, 551, 552, 553, 5, 554, 188, 726, 727, 728, 729, 730, 731, 732, 733, 734, 735, 736, 737, 738, 739, 740, 741, 742, 743] (by decide +kernel) (by decide +kernel)
set_option maxRecDepth 20000 in
theorem gL_law_X5_listed : GoodIn wsL_law (wsV RL 136 RX5 yX5_listed wsX5_listed) := goodIn_app (goodIn_of _ (by decide +kernel)) ggL_law_X5_listed
set_option maxRecDepth 20000 in
theorem ggL_law_L_opens : GoodIn wsL_law wsL_opens := goodIn_ca (goodIn_r _ [562, 229, 563, 564, 565, 2, 566, 234, 235, 236, 237, 238, 239, 23, 748, 749, 750, 751, 752, 753, 754, 755, 756, 757, 758, 721, 722, 723, 724, 725] (by decide +kernel) (by decide +kernel)) (goodIn_sub (fun _ h => List.mem_append_right _ h) (by decide +kernel))
set_option maxRecDepth 20000 in
theorem gL_law_L_opens : GoodIn wsL_law (va_wsS RL 137 yL_opens wsL_opens) := goodIn_app (goodIn_of _ (by decide +kernel)) ggL_law_L_opens
set_option maxRecDepth 20000 in
theorem ggL_law_X5_opens : GoodIn wsL_law wsX5_opens := goodIn_r _ [570, 78, 289, 290, 291, 5, 292, 76, 181, 182, 183, 516, 517, 518, 519, 188, 726, 727, 728, 729, 730, 731, 732, 733, 734, 735, 736, 737, 738, 739, 740, 741, 742, 743] (by decide +kernel) (by decide +kernel)
set_option maxRecDepth 20000 in
theorem gL_law_X5_opens : GoodIn wsL_law (wsV RL 139 RX5 yX5_opens wsX5_opens) := goodIn_app (goodIn_of _ (by decide +kernel)) ggL_law_X5_opens
set_option maxRecDepth 20000 in
theorem ggL_law_X4_free : GoodIn wsL_law wsX4_free := goodIn_r _ [364, 17, 721, 722, 723, 724, 725, 744, 745] (by decide +kernel) (by decide +kernel)
set_option maxRecDepth 20000 in
theorem gL_law_X4_free : GoodIn wsL_law (wsV RL 140 RX4 yX4_free wsX4_free) := goodIn_app (goodIn_of _ (by decide +kernel)) ggL_law_X4_free
set_option maxRecDepth 20000 in
theorem ggL_law_X5_free : GoodIn wsL_law wsX5_free := goodIn_r _ [575, 384, 385, 386, 5, 387, 75, 551, 552, 553, 554, 188, 726, 727, 728, 729, 730, 731, 732, 733, 734, 735, 736, 737, 738, 739, 740, 741, 742, 743] (by decide +kernel) (by decide +kernel)
set_option maxRecDepth 20000 in
theorem gL_law_X5_free : GoodIn wsL_law (wsV RL 143 RX5 yX5_free wsX5_free) := goodIn_app (goodIn_of _ (by decide +kernel)) ggL_law_X5_free
set_option maxRecDepth 20000 in
theorem ggL_law_X4_freeByFiles : GoodIn wsL_law wsX4_freeByFiles := goodIn_r _ [579, 23, 580, 27, 581, 582, 56, 721, 722, 723, 724, 725, 748, 749, 750, 751, 752, 753, 754, 755, 756, 757, 758] (by decide +kernel) (by decide +kernel)
set_option maxRecDepth 20000 in
theorem gL_law_X4_freeByFiles : GoodIn wsL_law (wsV RL 144 RX4 yX4_freeByFiles wsX4_freeByFiles) := goodIn_app (goodIn_of _ (by decide +kernel)) ggL_law_X4_freeByFiles
set_option maxRecDepth 20000 in
theorem ggL_law_X5_freeByFiles : GoodIn wsL_law wsX5_freeByFiles := goodIn_r _ [586, 77, 392, 393, 394, 5, 395, 80, 551, 552, 553, 554, 188, 726, 727, 728, 729, 730, 731, 732, 733, 734, 735, 736, 737, 738, 739, 740, 741, 742, 743] (by decide +kernel) (by decide +kernel)
set_option maxRecDepth 20000 in
theorem gL_law_X5_freeByFiles : GoodIn wsL_law (wsV RL 147 RX5 yX5_freeByFiles wsX5_freeByFiles) := goodIn_app (goodIn_of _ (by decide +kernel)) ggL_law_X5_freeByFiles
set_option maxRecDepth 20000 in
theorem ggL_law_X4_reserved : GoodIn wsL_law wsX4_reserved := goodIn_r _ [368, 23, 721, 722, 723, 724, 725, 748, 749, 750, 751, 752, 753, 754, 755, 756, 757, 758] (by decide +kernel) (by decide +kernel)
set_option maxRecDepth 20000 in
theorem gL_law_X4_reserved : GoodIn wsL_law (wsV RL 148 RX4 yX4_reserved wsX4_reserved) := goodIn_app (goodIn_of _ (by decide +kernel)) ggL_law_X4_reserved
set_option maxRecDepth 20000 in
theorem ggL_law_X5_reserved : GoodIn wsL_law wsX5_reserved := goodIn_r _ [591, 388, 389, 390, 5, 391, 77, 551, 552, 553, 554, 188, 726, 727, 728, 729, 730, 731, 732, 733, 734, 735, 736, 737, 738, 739, 740, 741, 742, 743] (by decide +kernel) (by decide +kernel)
set_option maxRecDepth 20000 in
theorem gL_law_X5_reserved : GoodIn wsL_law (wsV RL 151 RX5 yX5_reserved wsX5_reserved) := goodIn_app (goodIn_of _ (by decide +kernel)) ggL_law_X5_reserved
set_option maxRecDepth 20000 in
theorem ggL_law_X4_kept : GoodIn wsL_law wsX4_kept := goodIn_r _ [372, 23, 721, 722, 723, 724, 725, 748, 749, 750, 751, 752, 753, 754, 755, 756, 757, 758] (by decide +kernel) (by decide +kernel)
set_option maxRecDepth 20000 in
theorem gL_law_X4_kept : GoodIn wsL_law (wsV RL 152 RX4 yX4_kept wsX4_kept) := goodIn_app (goodIn_of _ (by decide +kernel)) ggL_law_X4_kept
set_option maxRecDepth 20000 in
theorem ggL_law_X5_kept : GoodIn wsL_law wsX5_kept := goodIn_r _ [596, 392, 393, 394, 5, 395, 80, 551, 552, 553, 554, 188, 726, 727, 728, 729, 730, 731, 732, 733, 734, 735, 736, 737, 738, 739, 740, 741, 742, 743] (by decide +kernel) (by decide +kernel)
set_option maxRecDepth 20000 in
theorem gL_law_X5_kept : GoodIn wsL_law (wsV RL 155 RX5 yX5_kept wsX5_kept) := goodIn_app (goodIn_of _ (by decide +kernel)) ggL_law_X5_kept
set_option maxRecDepth 20000 in
theorem ggL_law_L_pieces : GoodIn wsL_law wsL_pieces := goodIn_ca (goodIn_ca (goodIn_r _ [599, 229, 94, 600, 601, 602, 2, 603, 238, 239, 17, 105, 106, 107, 108, 109, 604, 16, 605, 606, 460, 461, 462, 463, 452, 453, 454, 455, 32, 721, 722, 723, 724, 725, 744, 745] (by decide +kernel) (by decide +kernel)) (goodIn_sub (fun _ h => List.mem_append_right _ h) (by decide +kernel))) (goodIn_sub (fun _ h => List.mem_append_left _ (List.mem_append_right _ h)) (by decide +kernel))
set_option maxRecDepth 20000 in
theorem gL_law_L_pieces : GoodIn wsL_law (va_wsS RL 156 yL_pieces wsL_pieces) := goodIn_app (goodIn_of _ (by decide +kernel)) ggL_law_L_pieces
set_option maxRecDepth 20000 in
theorem ggL_law_X5_pieces : GoodIn wsL_law wsX5_pieces := goodIn_r _ [610, 181, 182, 5, 183, 184, 185, 186, 187, 188, 479, 480, 481, 482, 75, 726, 727, 728, 729, 730, 731, 732, 733, 734, 735, 736, 737, 738, 739, 740, 741, 742, 743] (by decide +kernel) (by decide +kernel)
set_option maxRecDepth 20000 in
theorem gL_law_X5_pieces : GoodIn wsL_law (wsV RL 158 RX5 yX5_pieces wsX5_pieces) := goodIn_app (goodIn_of _ (by decide +kernel)) ggL_law_X5_pieces
set_option maxRecDepth 20000 in
theorem ggL_law_L_isFree : GoodIn wsL_law wsL_isFree := goodIn_ca (goodIn_r _ [613, 229, 614, 615, 616, 2, 617, 238, 239, 17, 453, 16, 454, 455, 32, 721, 722, 723, 724, 725, 744, 745] (by decide +kernel) (by decide +kernel)) (goodIn_sub (fun _ h => List.mem_append_right _ h) (by decide +kernel))
set_option maxRecDepth 20000 in
theorem gL_law_L_isFree : GoodIn wsL_law (va_wsS RL 159 yL_isFree wsL_isFree) := goodIn_app (goodIn_of _ (by decide +kernel)) ggL_law_L_isFree
set_option maxRecDepth 20000 in
theorem ggL_law_X5_isFree : GoodIn wsL_law wsX5_isFree := goodIn_r _ [621, 75, 181, 182, 5, 183, 516, 517, 518, 519, 188, 726, 727, 728, 729, 730, 731, 732, 733, 734, 735, 736, 737, 738, 739, 740, 741, 742, 743] (by decide +kernel) (by decide +kernel)
set_option maxRecDepth 20000 in
theorem gL_law_X5_isFree : GoodIn wsL_law (wsV RL 161 RX5 yX5_isFree wsX5_isFree) := goodIn_app (goodIn_of _ (by decide +kernel)) ggL_law_X5_isFree
set_option maxRecDepth 20000 in
theorem ggL_law_L_blockAt : GoodIn wsL_law wsL_blockAt := goodIn_ca (goodIn_ca (goodIn_r _ [624, 229, 94, 625, 626, 627, 2, 628, 234, 235, 236, 237, 238, 239, 23, 105, 106, 107, 108, 109, 748, 749, 750, 751, 752, 753, 754, 755, 756, 757, 758, 721, 722, 723, 724, 725] (by decide +kernel) (by decide +kernel)) (goodIn_sub (fun _ h => List.mem_append_right _ h) (by decide +kernel))) (goodIn_sub (fun _ h => List.mem_append_left _ (List.mem_append_right _ h)) (by decide +kernel))
set_option maxRecDepth 20000 in
theorem gL_law_L_blockAt : GoodIn wsL_law (va_wsS RL 162 yL_blockAt wsL_blockAt) := goodIn_app (goodIn_of _ (by decide +kernel)) ggL_law_L_blockAt
set_option maxRecDepth 20000 in
theorem ggL_law_X5_blockAt : GoodIn wsL_law wsX5_blockAt := goodIn_r _ [632, 77, 289, 290, 291, 5, 292, 76, 181, 182, 183, 184, 185, 186, 187, 188, 726, 727, 728, 729, 730, 731, 732, 733, 734, 735, 736, 737, 738, 739, 740, 741, 742, 743] (by decide +kernel) (by decide +kernel)
set_option maxRecDepth 20000 in
theorem gL_law_X5_blockAt : GoodIn wsL_law (wsV RL 164 RX5 yX5_blockAt wsX5_blockAt) := goodIn_app (goodIn_of _ (by decide +kernel)) ggL_law_X5_blockAt
set_option maxRecDepth 20000 in
theorem ggL_law_L_extents : GoodIn wsL_law wsL_extents := goodIn_ca (goodIn_r _ [635, 229, 636, 637, 638, 2, 639, 234, 235, 236, 237, 238, 239, 23, 640, 27, 641, 642, 643, 644, 645, 646, 272, 262, 263, 264, 56, 647, 269, 270, 271, 721, 722, 723, 724, 725, 748, 749, 750, 751, 752, 753, 754, 755, 756, 757, 758] (by decide +kernel) (by decide +kernel)) (goodIn_sub (fun _ h => List.mem_append_right _ h) (by decide +kernel))
set_option maxRecDepth 20000 in
theorem gL_law_L_extents : GoodIn wsL_law (va_wsS RL 165 yL_extents wsL_extents) := goodIn_app (goodIn_of _ (by decide +kernel)) ggL_law_L_extents
set_option maxRecDepth 20000 in
theorem ggL_law_X5_extents : GoodIn wsL_law wsX5_extents := goodIn_r _ [651, 289, 290, 291, 5, 292, 76, 181, 182, 183, 516, 517, 518, 519, 188, 652, 653, 654, 655, 656, 657, 658, 659, 77, 726, 727, 728, 729, 730, 731, 732, 733, 734, 735, 736, 737, 738, 739, 740, 741, 742, 743] (by decide +kernel) (by decide +kernel)
set_option maxRecDepth 20000 in
theorem gL_law_X5_extents : GoodIn wsL_law (wsV RL 167 RX5 yX5_extents wsX5_extents) := goodIn_app (goodIn_of _ (by decide +kernel)) ggL_law_X5_extents
set_option maxRecDepth 20000 in
theorem ggL_law_L_extent : GoodIn wsL_law wsL_extent := goodIn_ca (goodIn_r _ [662, 229, 663, 664, 665, 2, 666, 238, 239, 234, 235, 236, 237, 23, 667, 27, 668, 669, 643, 644, 645, 646, 272, 262, 263, 264, 56, 647, 269, 270, 271, 670, 671, 672, 748, 749, 750, 751, 752, 753, 754, 755, 756, 757, 758, 721, 722, 723, 724, 725] (by decide +kernel) (by decide +kernel)) (goodIn_sub (fun _ h => List.mem_append_right _ h) (by decide +kernel))
set_option maxRecDepth 20000 in
theorem gL_law_L_extent : GoodIn wsL_law (va_wsS RL 168 yL_extent wsL_extent) := goodIn_app (goodIn_of _ (by decide +kernel)) ggL_law_L_extent
set_option maxRecDepth 20000 in
theorem ggL_law_X5_extent : GoodIn wsL_law wsX5_extent := goodIn_r _ [676, 77, 289, 290, 291, 5, 292, 76, 181, 182, 183, 652, 653, 654, 655, 656, 657, 658, 659, 516, 517, 518, 519, 188, 726, 727, 728, 729, 730, 731, 732, 733, 734, 735, 736, 737, 738, 739, 740, 741, 742, 743] (by decide +kernel) (by decide +kernel)
set_option maxRecDepth 20000 in
theorem gL_law_X5_extent : GoodIn wsL_law (wsV RL 170 RX5 yX5_extent wsX5_extent) := goodIn_app (goodIn_of _ (by decide +kernel)) ggL_law_X5_extent
set_option maxRecDepth 20000 in
theorem ggL_law_L_average : GoodIn wsL_law wsL_average := goodIn_ca (goodIn_r _ [679, 229, 680, 681, 682, 2, 683, 234, 235, 236, 237, 238, 239, 23, 640, 27, 641, 642, 643, 644, 645, 646, 272, 262, 263, 264, 56, 647, 269, 270, 271, 580, 581, 582, 721, 722, 723, 724, 725, 748, 749, 750, 751, 752, 753, 754, 755, 756, 757, 758] (by decide +kernel) (by decide +kernel)) (goodIn_sub (fun _ h => List.mem_append_right _ h) (by decide +kernel))
set_option maxRecDepth 20000 in
theorem gL_law_L_average : GoodIn wsL_law (va_wsS RL 171 yL_average wsL_average) := goodIn_app (goodIn_of _ (by decide +kernel)) ggL_law_L_average
set_option maxRecDepth 20000 in
theorem ggL_law_X5_average : GoodIn wsL_law wsX5_average := goodIn_r _ [687, 77, 289, 290, 291, 5, 292, 76, 181, 182, 183, 516, 517, 518, 519, 188, 652, 653, 654, 655, 656, 657, 658, 659, 726, 727, 728, 729, 730, 731, 732, 733, 734, 735, 736, 737, 738, 739, 740, 741, 742, 743] (by decide +kernel) (by decide +kernel)
set_option maxRecDepth 20000 in
theorem gL_law_X5_average : GoodIn wsL_law (wsV RL 174 RX5 yX5_average wsX5_average) := goodIn_app (goodIn_of _ (by decide +kernel)) ggL_law_X5_average
set_option maxRecDepth 20000 in
theorem ggL_law_L_fileOf : GoodIn wsL_law wsL_fileOf := goodIn_ca (goodIn_r _ [690, 94, 691, 692, 693, 2, 694, 21, 102, 103, 104, 105, 106, 107, 108, 109, 118, 20, 119, 120, 121, 122, 123, 124, 125, 126, 127, 128, 129, 130, 131, 132, 133, 134, 40, 135, 39, 136, 137, 52, 51, 138, 139, 140, 141, 142, 143, 144, 48, 46, 145, 146, 147, 47, 721, 722, 723, 724, 725, 759, 760, 761, 762, 763, 764, 765, 746, 747] (by decide +kernel) (by decide +kernel)) (goodIn_sub (fun _ h => List.mem_append_left _ (List.mem_append_right _ h)) (by decide +kernel))
set_option maxRecDepth 20000 in
theorem gL_law_L_fileOf : GoodIn wsL_law (va_wsS RL 175 yL_fileOf wsL_fileOf) := goodIn_app (goodIn_of _ (by decide +kernel)) ggL_law_L_fileOf
set_option maxRecDepth 20000 in
theorem ggL_law_X5_fileOf : GoodIn wsL_law wsX5_fileOf := goodIn_r _ [698, 84, 178, 179, 5, 180, 181, 182, 183, 516, 517, 518, 519, 188, 726, 727, 728, 729, 730, 731, 732, 733, 734, 735, 736, 737, 738, 739, 740, 741, 742, 743] (by decide +kernel) (by decide +kernel)
set_option maxRecDepth 20000 in
theorem gL_law_X5_fileOf : GoodIn wsL_law (wsV RL 177 RX5 yX5_fileOf wsX5_fileOf) := goodIn_app (goodIn_of _ (by decide +kernel)) ggL_law_X5_fileOf
set_option maxRecDepth 20000 in
theorem ggL_law_X4_leaves : GoodIn wsL_law wsX4_leaves := goodIn_r _ [702, 21, 721, 722, 723, 724, 725, 746, 747] (by decide +kernel) (by decide +kernel)
set_option maxRecDepth 20000 in
theorem gL_law_X4_leaves : GoodIn wsL_law (wsV RL 178 RX4 yX4_leaves wsX4_leaves) := goodIn_app (goodIn_of _ (by decide +kernel)) ggL_law_X4_leaves
set_option maxRecDepth 20000 in
theorem ggL_law_X5_leaves : GoodIn wsL_law wsX5_leaves := goodIn_r _ [706, 89, 551, 552, 553, 5, 554, 188, 726, 727, 728, 729, 730, 731, 732, 733, 734, 735, 736, 737, 738, 739, 740, 741, 742, 743] (by decide +kernel) (by decide +kernel)
set_option maxRecDepth 20000 in
theorem gL_law_X5_leaves : GoodIn wsL_law (wsV RL 181 RX5 yX5_leaves wsX5_leaves) := goodIn_app (goodIn_of _ (by decide +kernel)) ggL_law_X5_leaves
set_option maxRecDepth 20000 in
theorem ggL_law_L_looks : GoodIn wsL_law wsL_looks := goodIn_ca (goodIn_r _ [709, 94, 710, 711, 712, 2, 713, 21, 102, 103, 104, 105, 106, 107, 108, 109, 714, 20, 715, 716, 121, 122, 123, 124, 125, 126, 127, 128, 129, 130, 131, 132, 133, 134, 40, 135, 39, 136, 137, 52, 51, 138, 139, 140, 141, 142, 143, 144, 48, 46, 721, 722, 723, 724, 725, 759, 760, 761, 762, 763, 764, 765, 746, 747] (by decide +kernel) (by decide +kernel)) (goodIn_sub (fun _ h => List.mem_append_left _ (List.mem_append_right _ h)) (by decide +kernel))
set_option maxRecDepth 20000 in
theorem gL_law_L_looks : GoodIn wsL_law (va_wsS RL 182 yL_looks wsL_looks) := goodIn_app (goodIn_of _ (by decide +kernel)) ggL_law_L_looks
set_option maxRecDepth 20000 in
theorem ggL_law_X5_looks : GoodIn wsL_law wsX5_looks := goodIn_r _ [720, 178, 179, 5, 180, 181, 182, 183, 516, 517, 518, 519, 188, 335, 336, 337, 338, 86, 85, 193, 194, 195, 196, 197, 198, 199, 89, 339, 340, 341, 342, 343, 344, 345, 346, 88, 87, 726, 727, 728, 729, 730, 731, 732, 733, 734, 735, 736, 737, 738, 739, 740, 741, 742, 743] (by decide +kernel) (by decide +kernel)
set_option maxRecDepth 20000 in
theorem gL_law_X5_looks : GoodIn wsL_law (wsV RL 184 RX5 yX5_looks wsX5_looks) := goodIn_app (goodIn_of _ (by decide +kernel)) ggL_law_X5_looks
theorem dL_law_0 : decode cL_law 0 = .ok (.new 8, 3) := by decide +kernel
theorem dL_law_3 : decode cL_law 3 = .ok (.dup, 1) := by decide +kernel
theorem dL_law_4 : decode cL_law 4 = .ok (.invokespecial 79, 3) := by decide +kernel
theorem dL_law_7 : decode cL_law 7 = .ok (.astore_n 1, 1) := by decide +kernel
theorem dL_law_8 : decode cL_law 8 = .ok (.new 80, 3) := by decide +kernel
theorem dL_law_11 : decode cL_law 11 = .ok (.dup, 1) := by decide +kernel
theorem dL_law_12 : decode cL_law 12 = .ok (.invokespecial 82, 3) := by decide +kernel
theorem dL_law_15 : decode cL_law 15 = .ok (.astore_n 2, 1) := by decide +kernel
theorem dL_law_16 : decode cL_law 16 = .ok (.iconst 1, 1) := by decide +kernel
theorem dL_law_17 : decode cL_law 17 = .ok (.newarray .long, 2) := by decide +kernel
theorem dL_law_19 : decode cL_law 19 = .ok (.astore_n 3, 1) := by decide +kernel
theorem dL_law_20 : decode cL_law 20 = .ok (.iconst 1, 1) := by decide +kernel
theorem dL_law_21 : decode cL_law 21 = .ok (.newarray .double, 2) := by decide +kernel
theorem dL_law_23 : decode cL_law 23 = .ok (.astore 4, 2) := by decide +kernel
theorem dL_law_25 : decode cL_law 25 = .ok (.iconst 0, 1) := by decide +kernel
theorem dL_law_26 : decode cL_law 26 = .ok (.istore 5, 2) := by decide +kernel
theorem dL_law_28 : decode cL_law 28 = .ok (.iload 5, 2) := by decide +kernel
theorem dL_law_30 : decode cL_law 30 = .ok (.aload_n 0, 1) := by decide +kernel
theorem dL_law_31 : decode cL_law 31 = .ok (.arraylength, 1) := by decide +kernel
theorem dL_law_32 : decode cL_law 32 = .ok (.iconst 4, 1) := by decide +kernel
theorem dL_law_33 : decode cL_law 33 = .ok (.isub, 1) := by decide +kernel
theorem dL_law_34 : decode cL_law 34 = .ok (.if_icmp .gt 1345, 3) := by decide +kernel
theorem dL_law_37 : decode cL_law 37 = .ok (.aload_n 0, 1) := by decide +kernel
theorem dL_law_38 : decode cL_law 38 = .ok (.iload 5, 2) := by decide +kernel
theorem dL_law_40 : decode cL_law 40 = .ok (.iaload, 1) := by decide +kernel
theorem dL_law_41 : decode cL_law 41 = .ok (.bipush 31, 2) := by decide +kernel
theorem dL_law_43 : decode cL_law 43 = .ok (.iand, 1) := by decide +kernel
theorem dL_law_44 : decode cL_law 44 = .ok (.tableswitch 1329 0 26 #[124, 180, 236, 292, 348, 428, 484, 552, 588, 612, 656, 669, 682, 695, 751, 764, 777, 790, 803, 871, 934, 1002, 1058, 1126, 1204, 1260, 1273], 124) := by decide +kernel
theorem dL_law_168 : decode cL_law 168 = .ok (.aload_n 1, 1) := by decide +kernel
theorem dL_law_169 : decode cL_law 169 = .ok (.aload_n 0, 1) := by decide +kernel
theorem dL_law_170 : decode cL_law 170 = .ok (.iload 5, 2) := by decide +kernel
theorem dL_law_172 : decode cL_law 172 = .ok (.iconst 1, 1) := by decide +kernel
theorem dL_law_173 : decode cL_law 173 = .ok (.iadd, 1) := by decide +kernel
theorem dL_law_174 : decode cL_law 174 = .ok (.iaload, 1) := by decide +kernel
theorem dL_law_175 : decode cL_law 175 = .ok (.aload_n 3, 1) := by decide +kernel
theorem dL_law_176 : decode cL_law 176 = .ok (.invokestatic 83, 3) := by decide +kernel
theorem dL_law_179 : decode cL_law 179 = .ok (.istore 6, 2) := by decide +kernel
theorem dL_law_181 : decode cL_law 181 = .ok (.aload_n 2, 1) := by decide +kernel
theorem dL_law_182 : decode cL_law 182 = .ok (.aload_n 0, 1) := by decide +kernel
theorem dL_law_183 : decode cL_law 183 = .ok (.iload 5, 2) := by decide +kernel
theorem dL_law_185 : decode cL_law 185 = .ok (.iconst 1, 1) := by decide +kernel
theorem dL_law_186 : decode cL_law 186 = .ok (.iadd, 1) := by decide +kernel
theorem dL_law_187 : decode cL_law 187 = .ok (.iaload, 1) := by decide +kernel
theorem dL_law_188 : decode cL_law 188 = .ok (.invokevirtual 88, 3) := by decide +kernel
theorem dL_law_191 : decode cL_law 191 = .ok (.istore 7, 2) := by decide +kernel
theorem dL_law_193 : decode cL_law 193 = .ok (.aload_n 2, 1) := by decide +kernel
