set_option maxRecDepth 20000 in
theorem ggX4_init_X2_init : GoodIn wsX4_init wsX2_init := goodIn_r _ [19, 20, 2, 3, 21, 22, 23, 61, 62] (by decide +kernel) (by decide +kernel)
set_option maxRecDepth 20000 in
theorem gX4_init_X2_init_n9 : GoodIn wsX4_init (wsX2_init) := ggX4_init_X2_init
set_option maxRecDepth 20000 in
theorem ggX4_init_X1_init : GoodIn wsX4_init wsX1_init := goodIn_r _ [25, 26, 2, 3, 27, 28, 29, 30, 31, 32, 33, 34, 35, 36, 37, 38, 39, 40, 41, 42, 81, 82, 83, 84, 85, 86, 87, 68, 69] (by decide +kernel) (by decide +kernel)
set_option maxRecDepth 20000 in
theorem gX4_init_X1_init_n18 : GoodIn wsX4_init (wsX1_init) := ggX4_init_X1_init
set_option maxRecDepth 20000 in
theorem ggX4_init_X0_init : GoodIn wsX4_init wsX0_init := goodIn_r _ [44, 45, 2, 3, 35, 46, 47, 48, 49, 50, 51, 52, 53, 54, 55, 56, 57, 58, 59, 60, 70, 71, 72, 73, 74, 75, 76, 77, 78, 79, 80] (by decide +kernel) (by decide +kernel)
set_option maxRecDepth 20000 in
theorem gX4_init_X0_init_n37 : GoodIn wsX4_init (wsX0_init) := ggX4_init_X0_init
theorem dX4_init_0 : decode cX4_init 0 = .ok (.aload_n 0, 1) := by decide +kernel
theorem dX4_init_1 : decode cX4_init 1 = .ok (.invokespecial 1, 3) := by decide +kernel
theorem dX4_init_4 : decode cX4_init 4 = .ok (.aload_n 0, 1) := by decide +kernel
theorem dX4_init_5 : decode cX4_init 5 = .ok (.new 7, 3) := by decide +kernel
theorem dX4_init_8 : decode cX4_init 8 = .ok (.dup, 1) := by decide +kernel
theorem dX4_init_9 : decode cX4_init 9 = .ok (.invokespecial 9, 3) := by decide +kernel
theorem dX4_init_12 : decode cX4_init 12 = .ok (.putfield 10, 3) := by decide +kernel
theorem dX4_init_15 : decode cX4_init 15 = .ok (.aload_n 0, 1) := by decide +kernel
theorem dX4_init_16 : decode cX4_init 16 = .ok (.new 16, 3) := by decide +kernel
theorem dX4_init_19 : decode cX4_init 19 = .ok (.dup, 1) := by decide +kernel
theorem dX4_init_20 : decode cX4_init 20 = .ok (.invokespecial 18, 3) := by decide +kernel
theorem dX4_init_23 : decode cX4_init 23 = .ok (.putfield 19, 3) := by decide +kernel
theorem dX4_init_26 : decode cX4_init 26 = .ok (.aload_n 0, 1) := by decide +kernel
theorem dX4_init_27 : decode cX4_init 27 = .ok (.bipush 16, 2) := by decide +kernel
theorem dX4_init_29 : decode cX4_init 29 = .ok (.anewarray 23, 3) := by decide +kernel
theorem dX4_init_32 : decode cX4_init 32 = .ok (.putfield 25, 3) := by decide +kernel
theorem dX4_init_35 : decode cX4_init 35 = .ok (.aload_n 0, 1) := by decide +kernel
theorem dX4_init_36 : decode cX4_init 36 = .ok (.iconst (-1), 1) := by decide +kernel
theorem dX4_init_37 : decode cX4_init 37 = .ok (.putfield 29, 3) := by decide +kernel
theorem dX4_init_40 : decode cX4_init 40 = .ok (.aload_n 0, 1) := by decide +kernel
theorem dX4_init_41 : decode cX4_init 41 = .ok (.iconst 0, 1) := by decide +kernel
theorem dX4_init_42 : decode cX4_init 42 = .ok (.putfield 33, 3) := by decide +kernel
theorem dX4_init_45 : decode cX4_init 45 = .ok (.iconst 0, 1) := by decide +kernel
theorem dX4_init_46 : decode cX4_init 46 = .ok (.istore_n 1, 1) := by decide +kernel
theorem dX4_init_47 : decode cX4_init 47 = .ok (.iload_n 1, 1) := by decide +kernel
theorem dX4_init_48 : decode cX4_init 48 = .ok (.bipush 16, 2) := by decide +kernel
theorem dX4_init_50 : decode cX4_init 50 = .ok (.if_icmp .ge 23, 3) := by decide +kernel
theorem dX4_init_53 : decode cX4_init 53 = .ok (.aload_n 0, 1) := by decide +kernel
theorem dX4_init_54 : decode cX4_init 54 = .ok (.getfield 25, 3) := by decide +kernel
theorem dX4_init_57 : decode cX4_init 57 = .ok (.iload_n 1, 1) := by decide +kernel
theorem dX4_init_58 : decode cX4_init 58 = .ok (.new 23, 3) := by decide +kernel
theorem dX4_init_61 : decode cX4_init 61 = .ok (.dup, 1) := by decide +kernel
theorem dX4_init_62 : decode cX4_init 62 = .ok (.iload_n 1, 1) := by decide +kernel
theorem dX4_init_63 : decode cX4_init 63 = .ok (.invokespecial 37, 3) := by decide +kernel
theorem dX4_init_66 : decode cX4_init 66 = .ok (.aastore, 1) := by decide +kernel
theorem dX4_init_67 : decode cX4_init 67 = .ok (.iinc 1 1, 3) := by decide +kernel
theorem dX4_init_70 : decode cX4_init 70 = .ok (.goto (-23), 3) := by decide +kernel
theorem dX4_init_73 : decode cX4_init 73 = .ok (.return_, 1) := by decide +kernel
set_option maxRecDepth 20000 in
theorem ggX4_create_X4_requireName : GoodIn wsX4_create wsX4_requireName := goodIn_ca (goodIn_r _ [8, 9, 10, 7, 11, 12, 13] (by decide +kernel) (by decide +kernel)) (goodIn_sub (fun _ h => List.mem_cons_of_mem _ (List.mem_append_right _ h)) (by decide +kernel))
set_option maxRecDepth 20000 in
theorem gX4_create_X4_requireName : GoodIn wsX4_create (va_wsS RX4 40 yX4_requireName wsX4_requireName) := goodIn_app (goodIn_of _ (by decide +kernel)) ggX4_create_X4_requireName
set_option maxRecDepth 20000 in
theorem ggX4_create_X4_requireUp : GoodIn wsX4_create wsX4_requireUp := goodIn_ca (goodIn_r _ [17, 1, 2, 18, 98, 99, 100, 101, 102] (by decide +kernel) (by decide +kernel)) (goodIn_sub (fun _ h => List.mem_cons_of_mem _ (List.mem_append_left _ (List.mem_append_right _ h))) (by decide +kernel))
set_option maxRecDepth 20000 in
theorem gX4_create_X4_requireUp : GoodIn wsX4_create (wsV RX4 43 RX4 yX4_requireUp wsX4_requireUp) := goodIn_app (goodIn_of _ (by decide +kernel)) ggX4_create_X4_requireUp
set_option maxRecDepth 20000 in
theorem ggX4_create_X4_lowestUnusedFile : GoodIn wsX4_create wsX4_lowestUnusedFile := goodIn_r _ [22, 4, 98, 99, 100, 101, 102, 103, 104, 105, 106, 107, 108, 109, 110, 111, 112, 113] (by decide +kernel) (by decide +kernel)
set_option maxRecDepth 20000 in
theorem gX4_create_X4_lowestUnusedFile : GoodIn wsX4_create (wsV RX4 46 RX4 yX4_lowestUnusedFile wsX4_lowestUnusedFile) := goodIn_app (goodIn_of _ (by decide +kernel)) ggX4_create_X4_lowestUnusedFile
set_option maxRecDepth 20000 in
theorem ggX4_create_X1_fileWith : GoodIn wsX4_create wsX1_fileWith := goodIn_r _ [26, 27, 28, 29, 24, 30, 31, 7, 32, 33, 34, 35, 36, 37, 38, 39, 40, 41, 42, 43, 44, 45, 46, 47, 48, 49, 50, 51, 52, 53, 54, 55, 56, 57, 58, 59, 60, 114, 115, 116, 117, 118, 119, 120, 121, 122] (by decide +kernel) (by decide +kernel)
set_option maxRecDepth 20000 in
theorem gX4_create_X1_fileWith_n50 : GoodIn wsX4_create (wsX1_fileWith) := ggX4_create_X1_fileWith
set_option maxRecDepth 20000 in
theorem ggX4_create_X1_isFull : GoodIn wsX4_create wsX1_isFull := goodIn_r _ [63, 64, 121, 122] (by decide +kernel) (by decide +kernel)
set_option maxRecDepth 20000 in
theorem gX4_create_X1_isFull_n54 : GoodIn wsX4_create (wsX1_isFull) := ggX4_create_X1_isFull
set_option maxRecDepth 20000 in
theorem ggX4_create_X1_add : GoodIn wsX4_create wsX1_add := goodIn_r _ [67, 64, 31, 7, 32, 37, 38, 39, 24, 40, 41, 68, 43, 69, 70, 56, 71, 72, 55, 60, 73, 74, 75, 76, 77, 78, 79, 80, 81, 47, 46, 82, 83, 84, 85, 86, 87, 88, 89, 90, 91, 92, 114, 115, 116, 117, 118, 119, 120, 121, 122] (by decide +kernel) (by decide +kernel)
set_option maxRecDepth 20000 in
theorem gX4_create_X1_add_n65 : GoodIn wsX4_create (wsX1_add) := ggX4_create_X1_add
set_option maxRecDepth 20000 in
theorem ggX4_create_X0_begin : GoodIn wsX4_create wsX0_begin := goodIn_r _ [96, 97, 103, 104, 105, 106, 107, 108, 109, 110, 111, 112, 113] (by decide +kernel) (by decide +kernel)
set_option maxRecDepth 20000 in
theorem gX4_create_X0_begin_n69 : GoodIn wsX4_create (wsX0_begin) := ggX4_create_X0_begin
theorem dX4_create_0 : decode cX4_create 0 = .ok (.iload_n 1, 1) := by decide +kernel
theorem dX4_create_1 : decode cX4_create 1 = .ok (.invokestatic 40, 3) := by decide +kernel
theorem dX4_create_4 : decode cX4_create 4 = .ok (.aload_n 0, 1) := by decide +kernel
theorem dX4_create_5 : decode cX4_create 5 = .ok (.invokevirtual 43, 3) := by decide +kernel
theorem dX4_create_8 : decode cX4_create 8 = .ok (.aload_n 0, 1) := by decide +kernel
theorem dX4_create_9 : decode cX4_create 9 = .ok (.invokevirtual 46, 3) := by decide +kernel
theorem dX4_create_12 : decode cX4_create 12 = .ok (.istore_n 2, 1) := by decide +kernel
theorem dX4_create_13 : decode cX4_create 13 = .ok (.iload_n 2, 1) := by decide +kernel
theorem dX4_create_14 : decode cX4_create 14 = .ok (.iconst (-1), 1) := by decide +kernel
theorem dX4_create_15 : decode cX4_create 15 = .ok (.if_icmp .eq 25, 3) := by decide +kernel
theorem dX4_create_18 : decode cX4_create 18 = .ok (.aload_n 0, 1) := by decide +kernel
theorem dX4_create_19 : decode cX4_create 19 = .ok (.getfield 19, 3) := by decide +kernel
theorem dX4_create_22 : decode cX4_create 22 = .ok (.iload_n 1, 1) := by decide +kernel
theorem dX4_create_23 : decode cX4_create 23 = .ok (.invokevirtual 50, 3) := by decide +kernel
theorem dX4_create_26 : decode cX4_create 26 = .ok (.iconst (-1), 1) := by decide +kernel
theorem dX4_create_27 : decode cX4_create 27 = .ok (.if_icmp .ne 13, 3) := by decide +kernel
theorem dX4_create_30 : decode cX4_create 30 = .ok (.aload_n 0, 1) := by decide +kernel
theorem dX4_create_31 : decode cX4_create 31 = .ok (.getfield 19, 3) := by decide +kernel
theorem dX4_create_34 : decode cX4_create 34 = .ok (.invokevirtual 54, 3) := by decide +kernel
theorem dX4_create_37 : decode cX4_create 37 = .ok (.ifCond .eq 13, 3) := by decide +kernel
theorem dX4_create_40 : decode cX4_create 40 = .ok (.new 58, 3) := by decide +kernel
theorem dX4_create_43 : decode cX4_create 43 = .ok (.dup, 1) := by decide +kernel
theorem dX4_create_44 : decode cX4_create 44 = .ok (.ldc 60, 2) := by decide +kernel
theorem dX4_create_46 : decode cX4_create 46 = .ok (.invokespecial 62, 3) := by decide +kernel
theorem dX4_create_49 : decode cX4_create 49 = .ok (.athrow, 1) := by decide +kernel
theorem dX4_create_50 : decode cX4_create 50 = .ok (.aload_n 0, 1) := by decide +kernel
theorem dX4_create_51 : decode cX4_create 51 = .ok (.getfield 19, 3) := by decide +kernel
theorem dX4_create_54 : decode cX4_create 54 = .ok (.iload_n 1, 1) := by decide +kernel
theorem dX4_create_55 : decode cX4_create 55 = .ok (.iload_n 2, 1) := by decide +kernel
theorem dX4_create_56 : decode cX4_create 56 = .ok (.invokevirtual 65, 3) := by decide +kernel
theorem dX4_create_59 : decode cX4_create 59 = .ok (.aload_n 0, 1) := by decide +kernel
theorem dX4_create_60 : decode cX4_create 60 = .ok (.getfield 25, 3) := by decide +kernel
theorem dX4_create_63 : decode cX4_create 63 = .ok (.iload_n 2, 1) := by decide +kernel
theorem dX4_create_64 : decode cX4_create 64 = .ok (.aaload, 1) := by decide +kernel
theorem dX4_create_65 : decode cX4_create 65 = .ok (.invokevirtual 69, 3) := by decide +kernel
theorem dX4_create_68 : decode cX4_create 68 = .ok (.iload_n 2, 1) := by decide +kernel
theorem dX4_create_69 : decode cX4_create 69 = .ok (.ireturn, 1) := by decide +kernel
set_option maxRecDepth 20000 in
theorem ggX4_open_X4_requireName : GoodIn wsX4_open wsX4_requireName := goodIn_ca (goodIn_r _ [5, 6, 7, 4, 8, 9, 10] (by decide +kernel) (by decide +kernel)) (goodIn_sub (fun _ h => List.mem_cons_of_mem _ (List.mem_append_left _ (List.mem_append_right _ h))) (by decide +kernel))
set_option maxRecDepth 20000 in
theorem gX4_open_X4_requireName : GoodIn wsX4_open (va_wsS RX4 40 yX4_requireName wsX4_requireName) := goodIn_app (goodIn_of _ (by decide +kernel)) ggX4_open_X4_requireName
set_option maxRecDepth 20000 in
theorem ggX4_open_X4_requireUp : GoodIn wsX4_open wsX4_requireUp := goodIn_ca (goodIn_r _ [14, 15, 16, 17, 61, 62, 63, 64, 65] (by decide +kernel) (by decide +kernel)) (goodIn_sub (fun _ h => List.mem_cons_of_mem _ (List.mem_append_right _ h)) (by decide +kernel))
set_option maxRecDepth 20000 in
theorem gX4_open_X4_requireUp : GoodIn wsX4_open (wsV RX4 43 RX4 yX4_requireUp wsX4_requireUp) := goodIn_app (goodIn_of _ (by decide +kernel)) ggX4_open_X4_requireUp
set_option maxRecDepth 20000 in
theorem ggX4_open_X4_requireFileWith : GoodIn wsX4_open wsX4_requireFileWith := goodIn_ca (goodIn_r _ [21, 15, 16, 22, 23, 24, 25, 26, 27, 28, 29, 30, 31, 4, 32, 33, 34, 35, 36, 37, 38, 39, 40, 41, 42, 43, 44, 45, 46, 47, 48, 49, 50, 51, 52, 53, 54, 55, 56, 57, 58, 59, 60, 61, 62, 63, 64, 65, 77, 78, 79, 80, 81, 82, 83, 84, 85] (by decide +kernel) (by decide +kernel)) (goodIn_sub (fun _ h => List.mem_cons_of_mem _ (List.mem_append_right _ h)) (by decide +kernel))
set_option maxRecDepth 20000 in
theorem gX4_open_X4_requireFileWith : GoodIn wsX4_open (wsV RX4 72 RX4 yX4_requireFileWith wsX4_requireFileWith) := goodIn_app (goodIn_of _ (by decide +kernel)) ggX4_open_X4_requireFileWith
theorem dX4_open_0 : decode cX4_open 0 = .ok (.iload_n 1, 1) := by decide +kernel
theorem dX4_open_1 : decode cX4_open 1 = .ok (.invokestatic 40, 3) := by decide +kernel
theorem dX4_open_4 : decode cX4_open 4 = .ok (.aload_n 0, 1) := by decide +kernel
theorem dX4_open_5 : decode cX4_open 5 = .ok (.invokevirtual 43, 3) := by decide +kernel
theorem dX4_open_8 : decode cX4_open 8 = .ok (.aload_n 0, 1) := by decide +kernel
theorem dX4_open_9 : decode cX4_open 9 = .ok (.iload_n 1, 1) := by decide +kernel
theorem dX4_open_10 : decode cX4_open 10 = .ok (.invokevirtual 72, 3) := by decide +kernel
theorem dX4_open_13 : decode cX4_open 13 = .ok (.istore_n 2, 1) := by decide +kernel
theorem dX4_open_14 : decode cX4_open 14 = .ok (.aload_n 0, 1) := by decide +kernel
theorem dX4_open_15 : decode cX4_open 15 = .ok (.getfield 25, 3) := by decide +kernel
theorem dX4_open_18 : decode cX4_open 18 = .ok (.iload_n 2, 1) := by decide +kernel
theorem dX4_open_19 : decode cX4_open 19 = .ok (.aaload, 1) := by decide +kernel
theorem dX4_open_20 : decode cX4_open 20 = .ok (.dup, 1) := by decide +kernel
theorem dX4_open_21 : decode cX4_open 21 = .ok (.getfield 75, 3) := by decide +kernel
theorem dX4_open_24 : decode cX4_open 24 = .ok (.iconst 1, 1) := by decide +kernel
theorem dX4_open_25 : decode cX4_open 25 = .ok (.iadd, 1) := by decide +kernel
theorem dX4_open_26 : decode cX4_open 26 = .ok (.putfield 75, 3) := by decide +kernel
theorem dX4_open_29 : decode cX4_open 29 = .ok (.iload_n 2, 1) := by decide +kernel
theorem dX4_open_30 : decode cX4_open 30 = .ok (.ireturn, 1) := by decide +kernel
set_option maxRecDepth 20000 in
theorem ggX4_close_X4_requireContent : GoodIn wsX4_close wsX4_requireContent := goodIn_ca (goodIn_r _ [7, 8, 9, 10, 80, 81, 82, 83, 84, 69, 70, 71, 72, 73, 74, 75, 76, 77, 78, 79] (by decide +kernel) (by decide +kernel)) (goodIn_sub (fun _ h => List.mem_cons_of_mem _ (List.mem_append_right _ h)) (by decide +kernel))
set_option maxRecDepth 20000 in
theorem gX4_close_X4_requireContent : GoodIn wsX4_close (wsV RX4 78 RX4 yX4_requireContent wsX4_requireContent) := goodIn_app (goodIn_of _ (by decide +kernel)) ggX4_close_X4_requireContent
set_option maxRecDepth 20000 in
theorem ggX4_close_X4_requireUp : GoodIn wsX4_close wsX4_requireUp := goodIn_ca (goodIn_r _ [14, 1, 2, 15, 80, 81, 82, 83, 84] (by decide +kernel) (by decide +kernel)) (goodIn_sub (fun _ h => List.mem_cons_of_mem _ (List.mem_append_left _ (List.mem_append_right _ h))) (by decide +kernel))
set_option maxRecDepth 20000 in
theorem gX4_close_X4_requireUp : GoodIn wsX4_close (wsV RX4 43 RX4 yX4_requireUp wsX4_requireUp) := goodIn_app (goodIn_of _ (by decide +kernel)) ggX4_close_X4_requireUp
set_option maxRecDepth 20000 in
theorem ggX4_close_X4_erase : GoodIn wsX4_close wsX4_erase := goodIn_r _ [19, 20, 21, 22, 6, 23, 24, 25, 26, 27, 28, 29, 30, 31, 32, 33, 34, 35, 36, 37, 38, 39, 40, 41, 42, 43, 44, 45, 46, 47, 48, 49, 50, 51, 52, 53, 54, 55, 56, 57, 58, 59, 60, 61, 62, 63, 64, 15, 10, 65, 66, 67, 68, 69, 70, 71, 72, 73, 74, 75, 76, 77, 78, 79, 80, 81, 82, 83, 84, 85, 86] (by decide +kernel) (by decide +kernel)
set_option maxRecDepth 20000 in
theorem gX4_close_X4_erase : GoodIn wsX4_close (wsV RX4 87 RX4 yX4_erase wsX4_erase) := goodIn_app (goodIn_of _ (by decide +kernel)) ggX4_close_X4_erase
theorem dX4_close_0 : decode cX4_close 0 = .ok (.aload_n 0, 1) := by decide +kernel
theorem dX4_close_1 : decode cX4_close 1 = .ok (.iload_n 1, 1) := by decide +kernel
theorem dX4_close_2 : decode cX4_close 2 = .ok (.invokevirtual 78, 3) := by decide +kernel
theorem dX4_close_5 : decode cX4_close 5 = .ok (.astore_n 2, 1) := by decide +kernel
theorem dX4_close_6 : decode cX4_close 6 = .ok (.aload_n 0, 1) := by decide +kernel
theorem dX4_close_7 : decode cX4_close 7 = .ok (.invokevirtual 43, 3) := by decide +kernel
theorem dX4_close_10 : decode cX4_close 10 = .ok (.aload_n 2, 1) := by decide +kernel
theorem dX4_close_11 : decode cX4_close 11 = .ok (.getfield 75, 3) := by decide +kernel
theorem dX4_close_14 : decode cX4_close 14 = .ok (.ifCond .ne 13, 3) := by decide +kernel
theorem dX4_close_17 : decode cX4_close 17 = .ok (.new 58, 3) := by decide +kernel
theorem dX4_close_20 : decode cX4_close 20 = .ok (.dup, 1) := by decide +kernel
theorem dX4_close_21 : decode cX4_close 21 = .ok (.ldc 82, 2) := by decide +kernel
theorem dX4_close_23 : decode cX4_close 23 = .ok (.invokespecial 62, 3) := by decide +kernel
theorem dX4_close_26 : decode cX4_close 26 = .ok (.athrow, 1) := by decide +kernel
theorem dX4_close_27 : decode cX4_close 27 = .ok (.aload_n 2, 1) := by decide +kernel
theorem dX4_close_28 : decode cX4_close 28 = .ok (.dup, 1) := by decide +kernel
theorem dX4_close_29 : decode cX4_close 29 = .ok (.getfield 75, 3) := by decide +kernel
theorem dX4_close_32 : decode cX4_close 32 = .ok (.iconst 1, 1) := by decide +kernel
theorem dX4_close_33 : decode cX4_close 33 = .ok (.isub, 1) := by decide +kernel
theorem dX4_close_34 : decode cX4_close 34 = .ok (.putfield 75, 3) := by decide +kernel
theorem dX4_close_37 : decode cX4_close 37 = .ok (.aload_n 2, 1) := by decide +kernel
theorem dX4_close_38 : decode cX4_close 38 = .ok (.getfield 84, 3) := by decide +kernel
theorem dX4_close_41 : decode cX4_close 41 = .ok (.ifCond .eq 20, 3) := by decide +kernel
theorem dX4_close_44 : decode cX4_close 44 = .ok (.aload_n 2, 1) := by decide +kernel
theorem dX4_close_45 : decode cX4_close 45 = .ok (.getfield 75, 3) := by decide +kernel
theorem dX4_close_48 : decode cX4_close 48 = .ok (.ifCond .ne 13, 3) := by decide +kernel
theorem dX4_close_51 : decode cX4_close 51 = .ok (.aload_n 0, 1) := by decide +kernel
theorem dX4_close_52 : decode cX4_close 52 = .ok (.aload_n 2, 1) := by decide +kernel
theorem dX4_close_53 : decode cX4_close 53 = .ok (.invokevirtual 87, 3) := by decide +kernel
theorem dX4_close_56 : decode cX4_close 56 = .ok (.ifCond .ne 5, 3) := by decide +kernel
theorem dX4_close_59 : decode cX4_close 59 = .ok (.iconst (-1), 1) := by decide +kernel
theorem dX4_close_60 : decode cX4_close 60 = .ok (.ireturn, 1) := by decide +kernel
theorem dX4_close_61 : decode cX4_close 61 = .ok (.aload_n 2, 1) := by decide +kernel
theorem dX4_close_62 : decode cX4_close 62 = .ok (.getfield 75, 3) := by decide +kernel
theorem dX4_close_65 : decode cX4_close 65 = .ok (.ireturn, 1) := by decide +kernel
set_option maxRecDepth 20000 in
theorem ggX4_delete_X4_requireName : GoodIn wsX4_delete wsX4_requireName := goodIn_ca (goodIn_r _ [6, 7, 8, 5, 9, 10, 11] (by decide +kernel) (by decide +kernel)) (goodIn_sub (fun _ h => List.mem_cons_of_mem _ (List.mem_append_left _ (List.mem_append_right _ h))) (by decide +kernel))
set_option maxRecDepth 20000 in
theorem gX4_delete_X4_requireName : GoodIn wsX4_delete (va_wsS RX4 40 yX4_requireName wsX4_requireName) := goodIn_app (goodIn_of _ (by decide +kernel)) ggX4_delete_X4_requireName
set_option maxRecDepth 20000 in
theorem ggX4_delete_X4_requireUp : GoodIn wsX4_delete wsX4_requireUp := goodIn_ca (goodIn_r _ [15, 16, 17, 18, 120, 121, 122, 123, 124] (by decide +kernel) (by decide +kernel)) (goodIn_sub (fun _ h => List.mem_cons_of_mem _ (List.mem_append_right _ h)) (by decide +kernel))
set_option maxRecDepth 20000 in
theorem gX4_delete_X4_requireUp : GoodIn wsX4_delete (wsV RX4 43 RX4 yX4_requireUp wsX4_requireUp) := goodIn_app (goodIn_of _ (by decide +kernel)) ggX4_delete_X4_requireUp
set_option maxRecDepth 20000 in
theorem ggX4_delete_X4_requireFileWith : GoodIn wsX4_delete wsX4_requireFileWith := goodIn_ca (goodIn_r _ [22, 16, 17, 2, 23, 24, 25, 26, 27, 28, 29, 30, 31, 5, 32, 33, 34, 35, 36, 37, 38, 39, 40, 41, 42, 43, 44, 45, 46, 47, 48, 49, 50, 51, 52, 53, 54, 55, 56, 57, 58, 59, 60, 120, 121, 122, 123, 124, 136, 137, 138, 139, 140, 141, 142, 143, 144] (by decide +kernel) (by decide +kernel)) (goodIn_sub (fun _ h => List.mem_cons_of_mem _ (List.mem_append_right _ h)) (by decide +kernel))
set_option maxRecDepth 20000 in
theorem gX4_delete_X4_requireFileWith : GoodIn wsX4_delete (wsV RX4 72 RX4 yX4_requireFileWith wsX4_requireFileWith) := goodIn_app (goodIn_of _ (by decide +kernel)) ggX4_delete_X4_requireFileWith
set_option maxRecDepth 20000 in
theorem ggX4_delete_X1_takeOut : GoodIn wsX4_delete wsX1_takeOut := goodIn_r _ [63, 27, 28, 29, 24, 30, 31, 5, 32, 33, 34, 35, 36, 37, 38, 39, 40, 41, 42, 43, 44, 45, 46, 47, 48, 49, 50, 51, 52, 53, 54, 55, 56, 64, 65, 66, 60, 136, 137, 138, 139, 140, 141, 142, 143, 144] (by decide +kernel) (by decide +kernel)
set_option maxRecDepth 20000 in
theorem gX4_delete_X1_takeOut_n91 : GoodIn wsX4_delete (wsX1_takeOut) := ggX4_delete_X1_takeOut
set_option maxRecDepth 20000 in
theorem ggX4_delete_X4_erase : GoodIn wsX4_delete wsX4_erase := goodIn_r _ [70, 71, 72, 73, 5, 74, 75, 76, 77, 78, 79, 80, 81, 82, 83, 84, 85, 86, 87, 88, 89, 90, 91, 92, 93, 94, 95, 96, 97, 98, 99, 100, 101, 102, 103, 104, 105, 106, 107, 108, 109, 110, 111, 112, 113, 114, 115, 18, 1, 116, 117, 118, 119, 125, 126, 127, 128, 129, 130, 131, 132, 133, 134, 135, 120, 121, 122, 123, 124, 145, 146] (by decide +kernel) (by decide +kernel)
set_option maxRecDepth 20000 in
theorem gX4_delete_X4_erase : GoodIn wsX4_delete (wsV RX4 87 RX4 yX4_erase wsX4_erase) := goodIn_app (goodIn_of _ (by decide +kernel)) ggX4_delete_X4_erase
theorem dX4_delete_0 : decode cX4_delete 0 = .ok (.iload_n 1, 1) := by decide +kernel
theorem dX4_delete_1 : decode cX4_delete 1 = .ok (.invokestatic 40, 3) := by decide +kernel
theorem dX4_delete_4 : decode cX4_delete 4 = .ok (.aload_n 0, 1) := by decide +kernel
theorem dX4_delete_5 : decode cX4_delete 5 = .ok (.invokevirtual 43, 3) := by decide +kernel
theorem dX4_delete_8 : decode cX4_delete 8 = .ok (.aload_n 0, 1) := by decide +kernel
theorem dX4_delete_9 : decode cX4_delete 9 = .ok (.iload_n 1, 1) := by decide +kernel
theorem dX4_delete_10 : decode cX4_delete 10 = .ok (.invokevirtual 72, 3) := by decide +kernel
theorem dX4_delete_13 : decode cX4_delete 13 = .ok (.istore_n 2, 1) := by decide +kernel
theorem dX4_delete_14 : decode cX4_delete 14 = .ok (.aload_n 0, 1) := by decide +kernel
theorem dX4_delete_15 : decode cX4_delete 15 = .ok (.getfield 25, 3) := by decide +kernel
theorem dX4_delete_18 : decode cX4_delete 18 = .ok (.iload_n 2, 1) := by decide +kernel
theorem dX4_delete_19 : decode cX4_delete 19 = .ok (.aaload, 1) := by decide +kernel
theorem dX4_delete_20 : decode cX4_delete 20 = .ok (.astore_n 3, 1) := by decide +kernel
theorem dX4_delete_21 : decode cX4_delete 21 = .ok (.aload_n 0, 1) := by decide +kernel
theorem dX4_delete_22 : decode cX4_delete 22 = .ok (.getfield 19, 3) := by decide +kernel
theorem dX4_delete_25 : decode cX4_delete 25 = .ok (.iload_n 1, 1) := by decide +kernel
theorem dX4_delete_26 : decode cX4_delete 26 = .ok (.invokevirtual 91, 3) := by decide +kernel
theorem dX4_delete_29 : decode cX4_delete 29 = .ok (.aload_n 3, 1) := by decide +kernel
theorem dX4_delete_30 : decode cX4_delete 30 = .ok (.iconst 1, 1) := by decide +kernel
theorem dX4_delete_31 : decode cX4_delete 31 = .ok (.putfield 94, 3) := by decide +kernel
theorem dX4_delete_34 : decode cX4_delete 34 = .ok (.aload_n 3, 1) := by decide +kernel
theorem dX4_delete_35 : decode cX4_delete 35 = .ok (.iconst 1, 1) := by decide +kernel
theorem dX4_delete_36 : decode cX4_delete 36 = .ok (.putfield 84, 3) := by decide +kernel
theorem dX4_delete_39 : decode cX4_delete 39 = .ok (.aload_n 3, 1) := by decide +kernel
theorem dX4_delete_40 : decode cX4_delete 40 = .ok (.getfield 75, 3) := by decide +kernel
theorem dX4_delete_43 : decode cX4_delete 43 = .ok (.ifCond .ne 13, 3) := by decide +kernel
theorem dX4_delete_46 : decode cX4_delete 46 = .ok (.aload_n 0, 1) := by decide +kernel
theorem dX4_delete_47 : decode cX4_delete 47 = .ok (.aload_n 3, 1) := by decide +kernel
theorem dX4_delete_48 : decode cX4_delete 48 = .ok (.invokevirtual 87, 3) := by decide +kernel
theorem dX4_delete_51 : decode cX4_delete 51 = .ok (.ifCond .ne 5, 3) := by decide +kernel
theorem dX4_delete_54 : decode cX4_delete 54 = .ok (.iconst (-1), 1) := by decide +kernel
theorem dX4_delete_55 : decode cX4_delete 55 = .ok (.ireturn, 1) := by decide +kernel
theorem dX4_delete_56 : decode cX4_delete 56 = .ok (.iload_n 2, 1) := by decide +kernel
theorem dX4_delete_57 : decode cX4_delete 57 = .ok (.ireturn, 1) := by decide +kernel
set_option maxRecDepth 20000 in
theorem ggX4_write_X4_requireContent : GoodIn wsX4_write wsX4_requireContent := goodIn_ca (goodIn_r _ [7, 8, 9, 10, 65, 66, 67, 68, 69, 70, 71, 72, 73, 74, 75, 76, 77, 78, 79, 80] (by decide +kernel) (by decide +kernel)) (goodIn_sub (fun _ h => List.mem_cons_of_mem _ (List.mem_append_left _ (List.mem_append_right _ h))) (by decide +kernel))
set_option maxRecDepth 20000 in
theorem gX4_write_X4_requireContent : GoodIn wsX4_write (wsV RX4 78 RX4 yX4_requireContent wsX4_requireContent) := goodIn_app (goodIn_of _ (by decide +kernel)) ggX4_write_X4_requireContent
set_option maxRecDepth 20000 in
theorem ggX4_write_X4_requireRange : GoodIn wsX4_write wsX4_requireRange := goodIn_ca (goodIn_r _ [13, 14, 15] (by decide +kernel) (by decide +kernel)) (goodIn_sub (fun _ h => List.mem_cons_of_mem _ (List.mem_append_right _ h)) (by decide +kernel))
set_option maxRecDepth 20000 in
theorem gX4_write_X4_requireRange : GoodIn wsX4_write (va_wsS RX4 97 yX4_requireRange wsX4_requireRange) := goodIn_app (goodIn_of _ (by decide +kernel)) ggX4_write_X4_requireRange
set_option maxRecDepth 20000 in
theorem ggX4_write_X4_requireUp : GoodIn wsX4_write wsX4_requireUp := goodIn_ca (goodIn_r _ [19, 1, 2, 20, 65, 66, 67, 68, 69] (by decide +kernel) (by decide +kernel)) (goodIn_sub (fun _ h => List.mem_cons_of_mem _ (List.mem_append_left _ (List.mem_append_left _ (List.mem_append_right _ h)))) (by decide +kernel))
set_option maxRecDepth 20000 in
theorem gX4_write_X4_requireUp : GoodIn wsX4_write (wsV RX4 43 RX4 yX4_requireUp wsX4_requireUp) := goodIn_app (goodIn_of _ (by decide +kernel)) ggX4_write_X4_requireUp
set_option maxRecDepth 20000 in
theorem ggX4_write_X0_emptyPlaces : GoodIn wsX4_write wsX0_emptyPlaces := goodIn_r _ [24, 25, 70, 71, 72, 73, 74, 75, 76, 77, 78, 79, 80] (by decide +kernel) (by decide +kernel)
set_option maxRecDepth 20000 in
theorem gX4_write_X0_emptyPlaces_n101 : GoodIn wsX4_write (wsX0_emptyPlaces) := ggX4_write_X0_emptyPlaces
set_option maxRecDepth 20000 in
theorem ggX4_write_X4_left : GoodIn wsX4_write wsX4_left := goodIn_r _ [29, 30, 31, 32, 6, 33, 34, 35, 36, 37, 38, 10, 65, 66, 67, 68, 69, 81, 82, 70, 71, 72, 73, 74, 75, 76, 77, 78, 79, 80] (by decide +kernel) (by decide +kernel)
set_option maxRecDepth 20000 in
theorem gX4_write_X4_left : GoodIn wsX4_write (wsV RX4 105 RX4 yX4_left wsX4_left) := goodIn_app (goodIn_of _ (by decide +kernel)) ggX4_write_X4_left
set_option maxRecDepth 20000 in
theorem ggX4_write_X4_kept : GoodIn wsX4_write wsX4_kept := goodIn_r _ [42, 10, 65, 66, 67, 68, 69, 70, 71, 72, 73, 74, 75, 76, 77, 78, 79, 80] (by decide +kernel) (by decide +kernel)
set_option maxRecDepth 20000 in
theorem gX4_write_X4_kept : GoodIn wsX4_write (wsV RX4 108 RX4 yX4_kept wsX4_kept) := goodIn_app (goodIn_of _ (by decide +kernel)) ggX4_write_X4_kept
set_option maxRecDepth 20000 in
theorem ggX4_write_X4_releaseAllKept : GoodIn wsX4_write wsX4_releaseAllKept := goodIn_r _ [46, 10, 47, 48, 49, 6, 50, 34, 51, 52, 53, 54, 55, 56, 57, 58, 59, 60, 65, 66, 67, 68, 69, 70, 71, 72, 73, 74, 75, 76, 77, 78, 79, 80, 81, 82] (by decide +kernel) (by decide +kernel)
set_option maxRecDepth 20000 in
theorem gX4_write_X4_releaseAllKept : GoodIn wsX4_write (wsV RX4 113 RX4 yX4_releaseAllKept wsX4_releaseAllKept) := goodIn_app (goodIn_of _ (by decide +kernel)) ggX4_write_X4_releaseAllKept
set_option maxRecDepth 20000 in
theorem ggX4_write_X0_reserve : GoodIn wsX4_write wsX0_reserve := goodIn_r _ [63, 25, 64, 70, 71, 72, 73, 74, 75, 76, 77, 78, 79, 80] (by decide +kernel) (by decide +kernel)
set_option maxRecDepth 20000 in
theorem gX4_write_X0_reserve_n116 : GoodIn wsX4_write (wsX0_reserve) := ggX4_write_X0_reserve
theorem dX4_write_0 : decode cX4_write 0 = .ok (.aload_n 0, 1) := by decide +kernel
theorem dX4_write_1 : decode cX4_write 1 = .ok (.iload_n 1, 1) := by decide +kernel
theorem dX4_write_2 : decode cX4_write 2 = .ok (.invokevirtual 78, 3) := by decide +kernel
theorem dX4_write_5 : decode cX4_write 5 = .ok (.astore 4, 2) := by decide +kernel
theorem dX4_write_7 : decode cX4_write 7 = .ok (.iload_n 2, 1) := by decide +kernel
theorem dX4_write_8 : decode cX4_write 8 = .ok (.iconst 0, 1) := by decide +kernel
theorem dX4_write_9 : decode cX4_write 9 = .ok (.bipush 63, 2) := by decide +kernel
theorem dX4_write_11 : decode cX4_write 11 = .ok (.invokestatic 97, 3) := by decide +kernel
theorem dX4_write_14 : decode cX4_write 14 = .ok (.iload_n 3, 1) := by decide +kernel
theorem dX4_write_15 : decode cX4_write 15 = .ok (.iconst 1, 1) := by decide +kernel
theorem dX4_write_16 : decode cX4_write 16 = .ok (.bipush 64, 2) := by decide +kernel
theorem dX4_write_18 : decode cX4_write 18 = .ok (.iload_n 2, 1) := by decide +kernel
theorem dX4_write_19 : decode cX4_write 19 = .ok (.isub, 1) := by decide +kernel
theorem dX4_write_20 : decode cX4_write 20 = .ok (.invokestatic 97, 3) := by decide +kernel
theorem dX4_write_23 : decode cX4_write 23 = .ok (.aload_n 0, 1) := by decide +kernel
theorem dX4_write_24 : decode cX4_write 24 = .ok (.invokevirtual 43, 3) := by decide +kernel
theorem dX4_write_27 : decode cX4_write 27 = .ok (.aload 4, 2) := by decide +kernel
theorem dX4_write_29 : decode cX4_write 29 = .ok (.iload_n 2, 1) := by decide +kernel
theorem dX4_write_30 : decode cX4_write 30 = .ok (.iload_n 2, 1) := by decide +kernel
theorem dX4_write_31 : decode cX4_write 31 = .ok (.iload_n 3, 1) := by decide +kernel
theorem dX4_write_32 : decode cX4_write 32 = .ok (.iadd, 1) := by decide +kernel
theorem dX4_write_33 : decode cX4_write 33 = .ok (.invokevirtual 101, 3) := by decide +kernel
theorem dX4_write_36 : decode cX4_write 36 = .ok (.istore 5, 2) := by decide +kernel
theorem dX4_write_38 : decode cX4_write 38 = .ok (.iload 5, 2) := by decide +kernel
theorem dX4_write_40 : decode cX4_write 40 = .ok (.aload_n 0, 1) := by decide +kernel
theorem dX4_write_41 : decode cX4_write 41 = .ok (.invokevirtual 105, 3) := by decide +kernel
theorem dX4_write_44 : decode cX4_write 44 = .ok (.if_icmp .le 31, 3) := by decide +kernel
theorem dX4_write_47 : decode cX4_write 47 = .ok (.iload 5, 2) := by decide +kernel
theorem dX4_write_49 : decode cX4_write 49 = .ok (.aload_n 0, 1) := by decide +kernel
theorem dX4_write_50 : decode cX4_write 50 = .ok (.invokevirtual 105, 3) := by decide +kernel
theorem dX4_write_53 : decode cX4_write 53 = .ok (.aload_n 0, 1) := by decide +kernel
theorem dX4_write_54 : decode cX4_write 54 = .ok (.invokevirtual 108, 3) := by decide +kernel
theorem dX4_write_57 : decode cX4_write 57 = .ok (.iadd, 1) := by decide +kernel
theorem dX4_write_58 : decode cX4_write 58 = .ok (.if_icmp .le 13, 3) := by decide +kernel
theorem dX4_write_61 : decode cX4_write 61 = .ok (.new 58, 3) := by decide +kernel
theorem dX4_write_64 : decode cX4_write 64 = .ok (.dup, 1) := by decide +kernel
theorem dX4_write_65 : decode cX4_write 65 = .ok (.ldc 111, 2) := by decide +kernel
theorem dX4_write_67 : decode cX4_write 67 = .ok (.invokespecial 62, 3) := by decide +kernel
theorem dX4_write_70 : decode cX4_write 70 = .ok (.athrow, 1) := by decide +kernel
theorem dX4_write_71 : decode cX4_write 71 = .ok (.aload_n 0, 1) := by decide +kernel
theorem dX4_write_72 : decode cX4_write 72 = .ok (.invokevirtual 113, 3) := by decide +kernel
theorem dX4_write_75 : decode cX4_write 75 = .ok (.aload 4, 2) := by decide +kernel
theorem dX4_write_77 : decode cX4_write 77 = .ok (.iload_n 2, 1) := by decide +kernel
theorem dX4_write_78 : decode cX4_write 78 = .ok (.iload_n 2, 1) := by decide +kernel
theorem dX4_write_79 : decode cX4_write 79 = .ok (.iload_n 3, 1) := by decide +kernel
theorem dX4_write_80 : decode cX4_write 80 = .ok (.iadd, 1) := by decide +kernel
theorem dX4_write_81 : decode cX4_write 81 = .ok (.invokevirtual 116, 3) := by decide +kernel
theorem dX4_write_84 : decode cX4_write 84 = .ok (.iload 5, 2) := by decide +kernel
theorem dX4_write_86 : decode cX4_write 86 = .ok (.ireturn, 1) := by decide +kernel
set_option maxRecDepth 20000 in
theorem ggX4_flush_X4_requireContent : GoodIn wsX4_flush wsX4_requireContent := goodIn_ca (goodIn_r _ [5, 6, 7, 8, 112, 113, 114, 115, 116, 117, 118, 119, 120, 121, 122, 123, 124, 125, 126, 127] (by decide +kernel) (by decide +kernel)) (goodIn_sub (fun _ h => List.mem_cons_of_mem _ (List.mem_append_left _ (List.mem_append_right _ h))) (by decide +kernel))
set_option maxRecDepth 20000 in
theorem gX4_flush_X4_requireContent : GoodIn wsX4_flush (wsV RX4 78 RX4 yX4_requireContent wsX4_requireContent) := goodIn_app (goodIn_of _ (by decide +kernel)) ggX4_flush_X4_requireContent
set_option maxRecDepth 20000 in
theorem ggX4_flush_X4_requireUp : GoodIn wsX4_flush wsX4_requireUp := goodIn_ca (goodIn_r _ [12, 13, 14, 15, 112, 113, 114, 115, 116] (by decide +kernel) (by decide +kernel)) (goodIn_sub (fun _ h => List.mem_cons_of_mem _ (List.mem_append_right _ h)) (by decide +kernel))
set_option maxRecDepth 20000 in
theorem gX4_flush_X4_requireUp : GoodIn wsX4_flush (wsV RX4 43 RX4 yX4_requireUp wsX4_requireUp) := goodIn_app (goodIn_of _ (by decide +kernel)) ggX4_flush_X4_requireUp
set_option maxRecDepth 20000 in
theorem ggX4_flush_X0_isReserved : GoodIn wsX4_flush wsX0_isReserved := goodIn_r _ [19, 20, 117, 118, 119, 120, 121, 122, 123, 124, 125, 126, 127] (by decide +kernel) (by decide +kernel)
set_option maxRecDepth 20000 in
theorem gX4_flush_X0_isReserved_n119 : GoodIn wsX4_flush (wsX0_isReserved) := ggX4_flush_X0_isReserved
set_option maxRecDepth 20000 in
theorem ggX4_flush_X0_endOfReserved : GoodIn wsX4_flush wsX0_endOfReserved := goodIn_r _ [23, 24, 16, 18, 17, 19, 20, 117, 118, 119, 120, 121, 122, 123, 124, 125, 126, 127] (by decide +kernel) (by decide +kernel)
set_option maxRecDepth 20000 in
theorem gX4_flush_X0_endOfReserved_n123 : GoodIn wsX4_flush (wsX0_endOfReserved) := ggX4_flush_X0_endOfReserved
set_option maxRecDepth 20000 in
theorem ggX4_flush_X4_mapRow : GoodIn wsX4_flush wsX4_mapRow := goodIn_r _ [28, 29, 17, 30, 31, 32, 33, 34, 35, 36, 37, 38, 39, 40, 41, 42, 43, 44, 45, 20, 46, 47, 48, 49, 50, 51, 52, 53, 4, 54, 55, 56, 57, 58, 59, 60, 61, 62, 63, 64, 65, 66, 67, 68, 69, 70, 71, 72, 73, 74, 75, 76, 77, 78, 79, 8, 80, 81, 82, 83, 84, 85, 86, 87, 88, 89, 90, 91, 92, 93, 94, 95, 96, 97, 98, 99, 100, 101, 102, 103, 104, 105, 106, 107, 108, 109, 110, 111, 117, 118, 119, 120, 121, 122, 123, 124, 125, 126, 127, 112, 113, 114, 115, 116, 128, 129] (by decide +kernel) (by decide +kernel)
set_option maxRecDepth 20000 in
theorem gX4_flush_X4_mapRow : GoodIn wsX4_flush (wsV RX4 126 RX4 yX4_mapRow wsX4_mapRow) := goodIn_app (goodIn_of _ (by decide +kernel)) ggX4_flush_X4_mapRow
theorem dX4_flush_0 : decode cX4_flush 0 = .ok (.aload_n 0, 1) := by decide +kernel
theorem dX4_flush_1 : decode cX4_flush 1 = .ok (.iload_n 1, 1) := by decide +kernel
theorem dX4_flush_2 : decode cX4_flush 2 = .ok (.invokevirtual 78, 3) := by decide +kernel
theorem dX4_flush_5 : decode cX4_flush 5 = .ok (.astore_n 2, 1) := by decide +kernel
theorem dX4_flush_6 : decode cX4_flush 6 = .ok (.aload_n 0, 1) := by decide +kernel
theorem dX4_flush_7 : decode cX4_flush 7 = .ok (.invokevirtual 43, 3) := by decide +kernel
theorem dX4_flush_10 : decode cX4_flush 10 = .ok (.iconst 0, 1) := by decide +kernel
theorem dX4_flush_11 : decode cX4_flush 11 = .ok (.istore_n 3, 1) := by decide +kernel
theorem dX4_flush_12 : decode cX4_flush 12 = .ok (.iconst 0, 1) := by decide +kernel
theorem dX4_flush_13 : decode cX4_flush 13 = .ok (.istore 4, 2) := by decide +kernel
theorem dX4_flush_15 : decode cX4_flush 15 = .ok (.iload 4, 2) := by decide +kernel
theorem dX4_flush_17 : decode cX4_flush 17 = .ok (.bipush 64, 2) := by decide +kernel
theorem dX4_flush_19 : decode cX4_flush 19 = .ok (.if_icmp .ge 34, 3) := by decide +kernel
theorem dX4_flush_22 : decode cX4_flush 22 = .ok (.aload_n 2, 1) := by decide +kernel
theorem dX4_flush_23 : decode cX4_flush 23 = .ok (.iload 4, 2) := by decide +kernel
theorem dX4_flush_25 : decode cX4_flush 25 = .ok (.invokevirtual 119, 3) := by decide +kernel
theorem dX4_flush_28 : decode cX4_flush 28 = .ok (.ifCond .eq 19, 3) := by decide +kernel
theorem dX4_flush_31 : decode cX4_flush 31 = .ok (.iload_n 3, 1) := by decide +kernel
theorem dX4_flush_32 : decode cX4_flush 32 = .ok (.aload_n 0, 1) := by decide +kernel
theorem dX4_flush_33 : decode cX4_flush 33 = .ok (.aload_n 2, 1) := by decide +kernel
theorem dX4_flush_34 : decode cX4_flush 34 = .ok (.iload 4, 2) := by decide +kernel
theorem dX4_flush_36 : decode cX4_flush 36 = .ok (.aload_n 2, 1) := by decide +kernel
theorem dX4_flush_37 : decode cX4_flush 37 = .ok (.iload 4, 2) := by decide +kernel
theorem dX4_flush_39 : decode cX4_flush 39 = .ok (.invokevirtual 123, 3) := by decide +kernel
theorem dX4_flush_42 : decode cX4_flush 42 = .ok (.invokevirtual 126, 3) := by decide +kernel
theorem dX4_flush_45 : decode cX4_flush 45 = .ok (.iadd, 1) := by decide +kernel
theorem dX4_flush_46 : decode cX4_flush 46 = .ok (.istore_n 3, 1) := by decide +kernel
theorem dX4_flush_47 : decode cX4_flush 47 = .ok (.iinc 4 1, 3) := by decide +kernel
theorem dX4_flush_50 : decode cX4_flush 50 = .ok (.goto (-35), 3) := by decide +kernel
theorem dX4_flush_53 : decode cX4_flush 53 = .ok (.iload_n 3, 1) := by decide +kernel
theorem dX4_flush_54 : decode cX4_flush 54 = .ok (.ireturn, 1) := by decide +kernel
set_option maxRecDepth 20000 in
theorem ggX4_cut_X4_requireContent : GoodIn wsX4_cut wsX4_requireContent := goodIn_ca (goodIn_r _ [5, 6, 7, 8, 70, 71, 72, 73, 74, 75, 76, 77, 78, 79, 80, 81, 82, 83, 84, 85] (by decide +kernel) (by decide +kernel)) (goodIn_sub (fun _ h => List.mem_cons_of_mem _ (List.mem_append_left _ (List.mem_append_left _ (List.mem_append_right _ h)))) (by decide +kernel))
set_option maxRecDepth 20000 in
theorem gX4_cut_X4_requireContent : GoodIn wsX4_cut (wsV RX4 78 RX4 yX4_requireContent wsX4_requireContent) := goodIn_app (goodIn_of _ (by decide +kernel)) ggX4_cut_X4_requireContent
set_option maxRecDepth 20000 in
theorem ggX4_cut_X4_requireRange : GoodIn wsX4_cut wsX4_requireRange := goodIn_ca (goodIn_r _ [11, 12, 13] (by decide +kernel) (by decide +kernel)) (goodIn_sub (fun _ h => List.mem_cons_of_mem _ (List.mem_append_left _ (List.mem_append_right _ h))) (by decide +kernel))
set_option maxRecDepth 20000 in
theorem gX4_cut_X4_requireRange : GoodIn wsX4_cut (va_wsS RX4 97 yX4_requireRange wsX4_requireRange) := goodIn_app (goodIn_of _ (by decide +kernel)) ggX4_cut_X4_requireRange
set_option maxRecDepth 20000 in
theorem ggX4_cut_X4_requireUp : GoodIn wsX4_cut wsX4_requireUp := goodIn_ca (goodIn_r _ [17, 18, 19, 20, 70, 71, 72, 73, 74] (by decide +kernel) (by decide +kernel)) (goodIn_sub (fun _ h => List.mem_cons_of_mem _ (List.mem_append_right _ h)) (by decide +kernel))
set_option maxRecDepth 20000 in
theorem gX4_cut_X4_requireUp : GoodIn wsX4_cut (wsV RX4 43 RX4 yX4_requireUp wsX4_requireUp) := goodIn_app (goodIn_of _ (by decide +kernel)) ggX4_cut_X4_requireUp
set_option maxRecDepth 20000 in
theorem ggX4_cut_X4_cutTo : GoodIn wsX4_cut wsX4_cutTo := goodIn_r _ [24, 25, 26, 27, 28, 29, 30, 31, 32, 33, 4, 34, 35, 36, 37, 38, 39, 40, 41, 42, 43, 44, 45, 46, 47, 48, 49, 50, 51, 52, 53, 54, 55, 56, 57, 58, 59, 60, 61, 62, 63, 64, 65, 20, 8, 66, 67, 68, 69, 75, 76, 77, 78, 79, 80, 81, 82, 83, 84, 85, 70, 71, 72, 73, 74, 86, 87] (by decide +kernel) (by decide +kernel)
set_option maxRecDepth 20000 in
theorem gX4_cut_X4_cutTo : GoodIn wsX4_cut (wsV RX4 130 RX4 yX4_cutTo wsX4_cutTo) := goodIn_app (goodIn_of _ (by decide +kernel)) ggX4_cut_X4_cutTo
theorem dX4_cut_0 : decode cX4_cut 0 = .ok (.aload_n 0, 1) := by decide +kernel
theorem dX4_cut_1 : decode cX4_cut 1 = .ok (.iload_n 1, 1) := by decide +kernel
theorem dX4_cut_2 : decode cX4_cut 2 = .ok (.invokevirtual 78, 3) := by decide +kernel
theorem dX4_cut_5 : decode cX4_cut 5 = .ok (.astore_n 3, 1) := by decide +kernel
theorem dX4_cut_6 : decode cX4_cut 6 = .ok (.iload_n 2, 1) := by decide +kernel
theorem dX4_cut_7 : decode cX4_cut 7 = .ok (.iconst 0, 1) := by decide +kernel
theorem dX4_cut_8 : decode cX4_cut 8 = .ok (.bipush 64, 2) := by decide +kernel
theorem dX4_cut_10 : decode cX4_cut 10 = .ok (.invokestatic 97, 3) := by decide +kernel
theorem dX4_cut_13 : decode cX4_cut 13 = .ok (.aload_n 0, 1) := by decide +kernel
theorem dX4_cut_14 : decode cX4_cut 14 = .ok (.invokevirtual 43, 3) := by decide +kernel
theorem dX4_cut_17 : decode cX4_cut 17 = .ok (.aload_n 0, 1) := by decide +kernel
theorem dX4_cut_18 : decode cX4_cut 18 = .ok (.aload_n 3, 1) := by decide +kernel
theorem dX4_cut_19 : decode cX4_cut 19 = .ok (.iload_n 2, 1) := by decide +kernel
theorem dX4_cut_20 : decode cX4_cut 20 = .ok (.invokevirtual 130, 3) := by decide +kernel
theorem dX4_cut_23 : decode cX4_cut 23 = .ok (.ireturn, 1) := by decide +kernel
set_option maxRecDepth 20000 in
theorem ggX4_crashBehind_X4_requireRange : GoodIn wsX4_crashBehind wsX4_requireRange := goodIn_ca (goodIn_r _ [5, 6, 7] (by decide +kernel) (by decide +kernel)) (goodIn_sub (fun _ h => List.mem_cons_of_mem _ (List.mem_append_left _ (List.mem_append_right _ h))) (by decide +kernel))
set_option maxRecDepth 20000 in
theorem gX4_crashBehind_X4_requireRange : GoodIn wsX4_crashBehind (va_wsS RX4 97 yX4_requireRange wsX4_requireRange) := goodIn_app (goodIn_of _ (by decide +kernel)) ggX4_crashBehind_X4_requireRange
set_option maxRecDepth 20000 in
theorem ggX4_crashBehind_X4_requireUp : GoodIn wsX4_crashBehind wsX4_requireUp := goodIn_ca (goodIn_r _ [11, 12, 13, 14, 15, 16, 17, 18, 19] (by decide +kernel) (by decide +kernel)) (goodIn_sub (fun _ h => List.mem_cons_of_mem _ (List.mem_append_right _ h)) (by decide +kernel))
set_option maxRecDepth 20000 in
theorem gX4_crashBehind_X4_requireUp : GoodIn wsX4_crashBehind (wsV RX4 43 RX4 yX4_requireUp wsX4_requireUp) := goodIn_app (goodIn_of _ (by decide +kernel)) ggX4_crashBehind_X4_requireUp
theorem dX4_crashBehind_0 : decode cX4_crashBehind 0 = .ok (.iload_n 1, 1) := by decide +kernel
theorem dX4_crashBehind_1 : decode cX4_crashBehind 1 = .ok (.iconst (-1), 1) := by decide +kernel
theorem dX4_crashBehind_2 : decode cX4_crashBehind 2 = .ok (.if_icmp .eq 10, 3) := by decide +kernel
theorem dX4_crashBehind_5 : decode cX4_crashBehind 5 = .ok (.iload_n 1, 1) := by decide +kernel
theorem dX4_crashBehind_6 : decode cX4_crashBehind 6 = .ok (.iconst 1, 1) := by decide +kernel
theorem dX4_crashBehind_7 : decode cX4_crashBehind 7 = .ok (.bipush 50, 2) := by decide +kernel
theorem dX4_crashBehind_9 : decode cX4_crashBehind 9 = .ok (.invokestatic 97, 3) := by decide +kernel
theorem dX4_crashBehind_12 : decode cX4_crashBehind 12 = .ok (.aload_n 0, 1) := by decide +kernel
theorem dX4_crashBehind_13 : decode cX4_crashBehind 13 = .ok (.invokevirtual 43, 3) := by decide +kernel
theorem dX4_crashBehind_16 : decode cX4_crashBehind 16 = .ok (.aload_n 0, 1) := by decide +kernel
theorem dX4_crashBehind_17 : decode cX4_crashBehind 17 = .ok (.iload_n 1, 1) := by decide +kernel
theorem dX4_crashBehind_18 : decode cX4_crashBehind 18 = .ok (.putfield 29, 3) := by decide +kernel
theorem dX4_crashBehind_21 : decode cX4_crashBehind 21 = .ok (.return_, 1) := by decide +kernel
set_option maxRecDepth 20000 in
theorem ggX4_crash_X4_requireUp : GoodIn wsX4_crash wsX4_requireUp := goodIn_ca (goodIn_r _ [5, 6, 7, 8, 40, 41, 42, 43, 44] (by decide +kernel) (by decide +kernel)) (goodIn_sub (fun _ h => List.mem_cons_of_mem _ (List.mem_append_right _ h)) (by decide +kernel))
set_option maxRecDepth 20000 in
theorem gX4_crash_X4_requireUp : GoodIn wsX4_crash (wsV RX4 43 RX4 yX4_requireUp wsX4_requireUp) := goodIn_app (goodIn_of _ (by decide +kernel)) ggX4_crash_X4_requireUp
set_option maxRecDepth 20000 in
theorem ggX4_crash_X4_fall : GoodIn wsX4_crash wsX4_fall := goodIn_r _ [12, 8, 13, 14, 15, 16, 17, 4, 18, 19, 20, 21, 22, 23, 24, 25, 26, 27, 28, 29, 30, 31, 32, 33, 34, 35, 36, 37, 38, 39, 40, 41, 42, 43, 44, 45, 46, 47, 48, 49, 50, 51, 52, 53, 54, 55, 56, 57] (by decide +kernel) (by decide +kernel)
set_option maxRecDepth 20000 in
theorem gX4_crash_X4_fall : GoodIn wsX4_crash (wsV RX4 134 RX4 yX4_fall wsX4_fall) := goodIn_app (goodIn_of _ (by decide +kernel)) ggX4_crash_X4_fall
theorem dX4_crash_0 : decode cX4_crash 0 = .ok (.aload_n 0, 1) := by decide +kernel
theorem dX4_crash_1 : decode cX4_crash 1 = .ok (.invokevirtual 43, 3) := by decide +kernel
theorem dX4_crash_4 : decode cX4_crash 4 = .ok (.aload_n 0, 1) := by decide +kernel
theorem dX4_crash_5 : decode cX4_crash 5 = .ok (.invokevirtual 134, 3) := by decide +kernel
theorem dX4_crash_8 : decode cX4_crash 8 = .ok (.return_, 1) := by decide +kernel
set_option maxRecDepth 20000 in
theorem ggX4_start_X4_listed : GoodIn wsX4_start wsX4_listed := goodIn_r _ [9, 4, 63, 64, 65, 66, 67, 68, 69, 70, 71, 72, 73, 74, 75, 76, 77, 78] (by decide +kernel) (by decide +kernel)
set_option maxRecDepth 20000 in
theorem gX4_start_X4_listed : GoodIn wsX4_start (wsV RX4 139 RX4 yX4_listed wsX4_listed) := goodIn_app (goodIn_of _ (by decide +kernel)) ggX4_start_X4_listed
set_option maxRecDepth 20000 in
theorem ggX4_start_X4_erase : GoodIn wsX4_start wsX4_erase := goodIn_r _ [13, 14, 15, 16, 8, 17, 18, 19, 20, 21, 22, 23, 24, 25, 26, 27, 28, 29, 30, 31, 32, 33, 34, 35, 36, 37, 38, 39, 40, 41, 42, 43, 44, 45, 46, 47, 48, 49, 50, 51, 52, 53, 54, 55, 56, 57, 58, 3, 4, 59, 60, 61, 62, 68, 69, 70, 71, 72, 73, 74, 75, 76, 77, 78, 63, 64, 65, 66, 67, 79, 80] (by decide +kernel) (by decide +kernel)
set_option maxRecDepth 20000 in
theorem gX4_start_X4_erase : GoodIn wsX4_start (wsV RX4 87 RX4 yX4_erase wsX4_erase) := goodIn_app (goodIn_of _ (by decide +kernel)) ggX4_start_X4_erase
set_option maxRecDepth 20000 in
theorem ggX4_start_X4_cutTo : GoodIn wsX4_start wsX4_cutTo := goodIn_r _ [17, 18, 19, 20, 21, 22, 23, 24, 25, 26, 8, 27, 28, 29, 30, 31, 32, 33, 34, 35, 36, 37, 38, 39, 40, 41, 42, 43, 44, 45, 46, 47, 48, 49, 50, 51, 52, 53, 54, 55, 56, 57, 58, 3, 4, 59, 60, 61, 62, 68, 69, 70, 71, 72, 73, 74, 75, 76, 77, 78, 63, 64, 65, 66, 67, 79, 80] (by decide +kernel) (by decide +kernel)
set_option maxRecDepth 20000 in
theorem gX4_start_X4_cutTo : GoodIn wsX4_start (wsV RX4 130 RX4 yX4_cutTo wsX4_cutTo) := goodIn_app (goodIn_of _ (by decide +kernel)) ggX4_start_X4_cutTo
theorem dX4_start_0 : decode cX4_start 0 = .ok (.aload_n 0, 1) := by decide +kernel
theorem dX4_start_1 : decode cX4_start 1 = .ok (.getfield 33, 3) := by decide +kernel
theorem dX4_start_4 : decode cX4_start 4 = .ok (.ifCond .ne 13, 3) := by decide +kernel
theorem dX4_start_7 : decode cX4_start 7 = .ok (.new 58, 3) := by decide +kernel
theorem dX4_start_10 : decode cX4_start 10 = .ok (.dup, 1) := by decide +kernel
theorem dX4_start_11 : decode cX4_start 11 = .ok (.ldc 137, 2) := by decide +kernel
theorem dX4_start_13 : decode cX4_start 13 = .ok (.invokespecial 62, 3) := by decide +kernel
theorem dX4_start_16 : decode cX4_start 16 = .ok (.athrow, 1) := by decide +kernel
theorem dX4_start_17 : decode cX4_start 17 = .ok (.aload_n 0, 1) := by decide +kernel
theorem dX4_start_18 : decode cX4_start 18 = .ok (.iconst 0, 1) := by decide +kernel
theorem dX4_start_19 : decode cX4_start 19 = .ok (.putfield 33, 3) := by decide +kernel
theorem dX4_start_22 : decode cX4_start 22 = .ok (.aload_n 0, 1) := by decide +kernel
theorem dX4_start_23 : decode cX4_start 23 = .ok (.invokevirtual 139, 3) := by decide +kernel
theorem dX4_start_26 : decode cX4_start 26 = .ok (.istore_n 1, 1) := by decide +kernel
theorem dX4_start_27 : decode cX4_start 27 = .ok (.iconst 0, 1) := by decide +kernel
theorem dX4_start_28 : decode cX4_start 28 = .ok (.istore_n 2, 1) := by decide +kernel
theorem dX4_start_29 : decode cX4_start 29 = .ok (.iload_n 2, 1) := by decide +kernel
theorem dX4_start_30 : decode cX4_start 30 = .ok (.bipush 16, 2) := by decide +kernel
theorem dX4_start_32 : decode cX4_start 32 = .ok (.if_icmp .ge 49, 3) := by decide +kernel
theorem dX4_start_35 : decode cX4_start 35 = .ok (.aload_n 0, 1) := by decide +kernel
theorem dX4_start_36 : decode cX4_start 36 = .ok (.getfield 25, 3) := by decide +kernel
theorem dX4_start_39 : decode cX4_start 39 = .ok (.iload_n 2, 1) := by decide +kernel
theorem dX4_start_40 : decode cX4_start 40 = .ok (.aaload, 1) := by decide +kernel
theorem dX4_start_41 : decode cX4_start 41 = .ok (.astore_n 3, 1) := by decide +kernel
theorem dX4_start_42 : decode cX4_start 42 = .ok (.aload_n 3, 1) := by decide +kernel
theorem dX4_start_43 : decode cX4_start 43 = .ok (.getfield 84, 3) := by decide +kernel
theorem dX4_start_46 : decode cX4_start 46 = .ok (.ifCond .eq 12, 3) := by decide +kernel
theorem dX4_start_49 : decode cX4_start 49 = .ok (.aload_n 0, 1) := by decide +kernel
theorem dX4_start_50 : decode cX4_start 50 = .ok (.aload_n 3, 1) := by decide +kernel
theorem dX4_start_51 : decode cX4_start 51 = .ok (.invokevirtual 87, 3) := by decide +kernel
theorem dX4_start_54 : decode cX4_start 54 = .ok (.pop, 1) := by decide +kernel
theorem dX4_start_55 : decode cX4_start 55 = .ok (.goto 20, 3) := by decide +kernel
theorem dX4_start_58 : decode cX4_start 58 = .ok (.aload_n 3, 1) := by decide +kernel
theorem dX4_start_59 : decode cX4_start 59 = .ok (.getfield 94, 3) := by decide +kernel
theorem dX4_start_62 : decode cX4_start 62 = .ok (.ifCond .eq 13, 3) := by decide +kernel
theorem dX4_start_65 : decode cX4_start 65 = .ok (.aload_n 0, 1) := by decide +kernel
theorem dX4_start_66 : decode cX4_start 66 = .ok (.aload_n 3, 1) := by decide +kernel
theorem dX4_start_67 : decode cX4_start 67 = .ok (.aload_n 3, 1) := by decide +kernel
theorem dX4_start_68 : decode cX4_start 68 = .ok (.getfield 142, 3) := by decide +kernel
theorem dX4_start_71 : decode cX4_start 71 = .ok (.invokevirtual 130, 3) := by decide +kernel
theorem dX4_start_74 : decode cX4_start 74 = .ok (.pop, 1) := by decide +kernel
theorem dX4_start_75 : decode cX4_start 75 = .ok (.iinc 2 1, 3) := by decide +kernel
theorem dX4_start_78 : decode cX4_start 78 = .ok (.goto (-49), 3) := by decide +kernel
theorem dX4_start_81 : decode cX4_start 81 = .ok (.iload_n 1, 1) := by decide +kernel
theorem dX4_start_82 : decode cX4_start 82 = .ok (.ireturn, 1) := by decide +kernel
theorem dX4_isDown_0 : decode cX4_isDown 0 = .ok (.aload_n 0, 1) := by decide +kernel
theorem dX4_isDown_1 : decode cX4_isDown 1 = .ok (.getfield 33, 3) := by decide +kernel
theorem dX4_isDown_4 : decode cX4_isDown 4 = .ok (.ireturn, 1) := by decide +kernel
theorem dX4_files_0 : decode cX4_files 0 = .ok (.iconst 0, 1) := by decide +kernel
theorem dX4_files_1 : decode cX4_files 1 = .ok (.istore_n 1, 1) := by decide +kernel
theorem dX4_files_2 : decode cX4_files 2 = .ok (.iconst 0, 1) := by decide +kernel
theorem dX4_files_3 : decode cX4_files 3 = .ok (.istore_n 2, 1) := by decide +kernel
theorem dX4_files_4 : decode cX4_files 4 = .ok (.iload_n 2, 1) := by decide +kernel
theorem dX4_files_5 : decode cX4_files 5 = .ok (.bipush 16, 2) := by decide +kernel
theorem dX4_files_7 : decode cX4_files 7 = .ok (.if_icmp .ge 29, 3) := by decide +kernel
theorem dX4_files_10 : decode cX4_files 10 = .ok (.iload_n 1, 1) := by decide +kernel
theorem dX4_files_11 : decode cX4_files 11 = .ok (.aload_n 0, 1) := by decide +kernel
theorem dX4_files_12 : decode cX4_files 12 = .ok (.getfield 25, 3) := by decide +kernel
theorem dX4_files_15 : decode cX4_files 15 = .ok (.iload_n 2, 1) := by decide +kernel
theorem dX4_files_16 : decode cX4_files 16 = .ok (.aaload, 1) := by decide +kernel
theorem dX4_files_17 : decode cX4_files 17 = .ok (.getfield 145, 3) := by decide +kernel
theorem dX4_files_20 : decode cX4_files 20 = .ok (.ifCond .eq 7, 3) := by decide +kernel
theorem dX4_files_23 : decode cX4_files 23 = .ok (.iconst 1, 1) := by decide +kernel
theorem dX4_files_24 : decode cX4_files 24 = .ok (.goto 4, 3) := by decide +kernel
theorem dX4_files_27 : decode cX4_files 27 = .ok (.iconst 0, 1) := by decide +kernel
theorem dX4_files_28 : decode cX4_files 28 = .ok (.iadd, 1) := by decide +kernel
theorem dX4_files_29 : decode cX4_files 29 = .ok (.istore_n 1, 1) := by decide +kernel
theorem dX4_files_30 : decode cX4_files 30 = .ok (.iinc 2 1, 3) := by decide +kernel
theorem dX4_files_33 : decode cX4_files 33 = .ok (.goto (-29), 3) := by decide +kernel
theorem dX4_files_36 : decode cX4_files 36 = .ok (.iload_n 1, 1) := by decide +kernel
theorem dX4_files_37 : decode cX4_files 37 = .ok (.ireturn, 1) := by decide +kernel
theorem dX4_listed_0 : decode cX4_listed 0 = .ok (.iconst 0, 1) := by decide +kernel
theorem dX4_listed_1 : decode cX4_listed 1 = .ok (.istore_n 1, 1) := by decide +kernel
theorem dX4_listed_2 : decode cX4_listed 2 = .ok (.iconst 0, 1) := by decide +kernel
theorem dX4_listed_3 : decode cX4_listed 3 = .ok (.istore_n 2, 1) := by decide +kernel
theorem dX4_listed_4 : decode cX4_listed 4 = .ok (.iload_n 2, 1) := by decide +kernel
theorem dX4_listed_5 : decode cX4_listed 5 = .ok (.bipush 16, 2) := by decide +kernel
theorem dX4_listed_7 : decode cX4_listed 7 = .ok (.if_icmp .ge 29, 3) := by decide +kernel
theorem dX4_listed_10 : decode cX4_listed 10 = .ok (.iload_n 1, 1) := by decide +kernel
theorem dX4_listed_11 : decode cX4_listed 11 = .ok (.aload_n 0, 1) := by decide +kernel
theorem dX4_listed_12 : decode cX4_listed 12 = .ok (.getfield 25, 3) := by decide +kernel
theorem dX4_listed_15 : decode cX4_listed 15 = .ok (.iload_n 2, 1) := by decide +kernel
theorem dX4_listed_16 : decode cX4_listed 16 = .ok (.aaload, 1) := by decide +kernel
theorem dX4_listed_17 : decode cX4_listed 17 = .ok (.getfield 94, 3) := by decide +kernel
theorem dX4_listed_20 : decode cX4_listed 20 = .ok (.ifCond .eq 7, 3) := by decide +kernel
theorem dX4_listed_23 : decode cX4_listed 23 = .ok (.iconst 1, 1) := by decide +kernel
theorem dX4_listed_24 : decode cX4_listed 24 = .ok (.goto 4, 3) := by decide +kernel
theorem dX4_listed_27 : decode cX4_listed 27 = .ok (.iconst 0, 1) := by decide +kernel
theorem dX4_listed_28 : decode cX4_listed 28 = .ok (.iadd, 1) := by decide +kernel
theorem dX4_listed_29 : decode cX4_listed 29 = .ok (.istore_n 1, 1) := by decide +kernel
theorem dX4_listed_30 : decode cX4_listed 30 = .ok (.iinc 2 1, 3) := by decide +kernel
theorem dX4_listed_33 : decode cX4_listed 33 = .ok (.goto (-29), 3) := by decide +kernel
theorem dX4_listed_36 : decode cX4_listed 36 = .ok (.iload_n 1, 1) := by decide +kernel
theorem dX4_listed_37 : decode cX4_listed 37 = .ok (.ireturn, 1) := by decide +kernel
set_option maxRecDepth 20000 in
theorem ggX4_opens_X4_requireContent : GoodIn wsX4_opens wsX4_requireContent := goodIn_ca (goodIn_r _ [5, 6, 7, 8, 20, 21, 22, 23, 24, 9, 10, 11, 12, 13, 14, 15, 16, 17, 18, 19] (by decide +kernel) (by decide +kernel)) (goodIn_sub (fun _ h => List.mem_cons_of_mem _ (List.mem_append_right _ h)) (by decide +kernel))
set_option maxRecDepth 20000 in
theorem gX4_opens_X4_requireContent : GoodIn wsX4_opens (wsV RX4 78 RX4 yX4_requireContent wsX4_requireContent) := goodIn_app (goodIn_of _ (by decide +kernel)) ggX4_opens_X4_requireContent
theorem dX4_opens_0 : decode cX4_opens 0 = .ok (.aload_n 0, 1) := by decide +kernel
theorem dX4_opens_1 : decode cX4_opens 1 = .ok (.iload_n 1, 1) := by decide +kernel
theorem dX4_opens_2 : decode cX4_opens 2 = .ok (.invokevirtual 78, 3) := by decide +kernel
theorem dX4_opens_5 : decode cX4_opens 5 = .ok (.getfield 75, 3) := by decide +kernel
theorem dX4_opens_8 : decode cX4_opens 8 = .ok (.ireturn, 1) := by decide +kernel
theorem dX4_free_0 : decode cX4_free 0 = .ok (.aload_n 0, 1) := by decide +kernel
theorem dX4_free_1 : decode cX4_free 1 = .ok (.getfield 10, 3) := by decide +kernel
theorem dX4_free_4 : decode cX4_free 4 = .ok (.getfield 148, 3) := by decide +kernel
theorem dX4_free_7 : decode cX4_free 7 = .ok (.ireturn, 1) := by decide +kernel
set_option maxRecDepth 20000 in
theorem ggX4_freeByFiles_X0_mappedPlaces : GoodIn wsX4_freeByFiles wsX0_mappedPlaces := goodIn_r _ [5, 6, 12, 13, 14, 15, 16, 17, 18, 19, 20, 21, 22] (by decide +kernel) (by decide +kernel)
set_option maxRecDepth 20000 in
theorem gX4_freeByFiles_X0_mappedPlaces_n151 : GoodIn wsX4_freeByFiles (wsX0_mappedPlaces) := ggX4_freeByFiles_X0_mappedPlaces
theorem dX4_freeByFiles_0 : decode cX4_freeByFiles 0 = .ok (.sipush 128, 3) := by decide +kernel
theorem dX4_freeByFiles_3 : decode cX4_freeByFiles 3 = .ok (.istore_n 1, 1) := by decide +kernel
theorem dX4_freeByFiles_4 : decode cX4_freeByFiles 4 = .ok (.iconst 0, 1) := by decide +kernel
theorem dX4_freeByFiles_5 : decode cX4_freeByFiles 5 = .ok (.istore_n 2, 1) := by decide +kernel
theorem dX4_freeByFiles_6 : decode cX4_freeByFiles 6 = .ok (.iload_n 2, 1) := by decide +kernel
theorem dX4_freeByFiles_7 : decode cX4_freeByFiles 7 = .ok (.bipush 16, 2) := by decide +kernel
theorem dX4_freeByFiles_9 : decode cX4_freeByFiles 9 = .ok (.if_icmp .ge 31, 3) := by decide +kernel
theorem dX4_freeByFiles_12 : decode cX4_freeByFiles 12 = .ok (.iload_n 1, 1) := by decide +kernel
theorem dX4_freeByFiles_13 : decode cX4_freeByFiles 13 = .ok (.aload_n 0, 1) := by decide +kernel
theorem dX4_freeByFiles_14 : decode cX4_freeByFiles 14 = .ok (.getfield 25, 3) := by decide +kernel
theorem dX4_freeByFiles_17 : decode cX4_freeByFiles 17 = .ok (.iload_n 2, 1) := by decide +kernel
theorem dX4_freeByFiles_18 : decode cX4_freeByFiles 18 = .ok (.aaload, 1) := by decide +kernel
theorem dX4_freeByFiles_19 : decode cX4_freeByFiles 19 = .ok (.invokevirtual 151, 3) := by decide +kernel
theorem dX4_freeByFiles_22 : decode cX4_freeByFiles 22 = .ok (.aload_n 0, 1) := by decide +kernel
theorem dX4_freeByFiles_23 : decode cX4_freeByFiles 23 = .ok (.getfield 25, 3) := by decide +kernel
theorem dX4_freeByFiles_26 : decode cX4_freeByFiles 26 = .ok (.iload_n 2, 1) := by decide +kernel
theorem dX4_freeByFiles_27 : decode cX4_freeByFiles 27 = .ok (.aaload, 1) := by decide +kernel
theorem dX4_freeByFiles_28 : decode cX4_freeByFiles 28 = .ok (.getfield 154, 3) := by decide +kernel
theorem dX4_freeByFiles_31 : decode cX4_freeByFiles 31 = .ok (.iadd, 1) := by decide +kernel
theorem dX4_freeByFiles_32 : decode cX4_freeByFiles 32 = .ok (.isub, 1) := by decide +kernel
theorem dX4_freeByFiles_33 : decode cX4_freeByFiles 33 = .ok (.istore_n 1, 1) := by decide +kernel
theorem dX4_freeByFiles_34 : decode cX4_freeByFiles 34 = .ok (.iinc 2 1, 3) := by decide +kernel
theorem dX4_freeByFiles_37 : decode cX4_freeByFiles 37 = .ok (.goto (-31), 3) := by decide +kernel
theorem dX4_freeByFiles_40 : decode cX4_freeByFiles 40 = .ok (.iload_n 1, 1) := by decide +kernel
theorem dX4_freeByFiles_41 : decode cX4_freeByFiles 41 = .ok (.ireturn, 1) := by decide +kernel
theorem dX4_reserved_0 : decode cX4_reserved 0 = .ok (.iconst 0, 1) := by decide +kernel
theorem dX4_reserved_1 : decode cX4_reserved 1 = .ok (.istore_n 1, 1) := by decide +kernel
theorem dX4_reserved_2 : decode cX4_reserved 2 = .ok (.iconst 0, 1) := by decide +kernel
theorem dX4_reserved_3 : decode cX4_reserved 3 = .ok (.istore_n 2, 1) := by decide +kernel
theorem dX4_reserved_4 : decode cX4_reserved 4 = .ok (.iload_n 2, 1) := by decide +kernel
theorem dX4_reserved_5 : decode cX4_reserved 5 = .ok (.bipush 16, 2) := by decide +kernel
theorem dX4_reserved_7 : decode cX4_reserved 7 = .ok (.if_icmp .ge 21, 3) := by decide +kernel
theorem dX4_reserved_10 : decode cX4_reserved 10 = .ok (.iload_n 1, 1) := by decide +kernel
theorem dX4_reserved_11 : decode cX4_reserved 11 = .ok (.aload_n 0, 1) := by decide +kernel
theorem dX4_reserved_12 : decode cX4_reserved 12 = .ok (.getfield 25, 3) := by decide +kernel
theorem dX4_reserved_15 : decode cX4_reserved 15 = .ok (.iload_n 2, 1) := by decide +kernel
theorem dX4_reserved_16 : decode cX4_reserved 16 = .ok (.aaload, 1) := by decide +kernel
theorem dX4_reserved_17 : decode cX4_reserved 17 = .ok (.getfield 157, 3) := by decide +kernel
theorem dX4_reserved_20 : decode cX4_reserved 20 = .ok (.iadd, 1) := by decide +kernel
theorem dX4_reserved_21 : decode cX4_reserved 21 = .ok (.istore_n 1, 1) := by decide +kernel
theorem dX4_reserved_22 : decode cX4_reserved 22 = .ok (.iinc 2 1, 3) := by decide +kernel
theorem dX4_reserved_25 : decode cX4_reserved 25 = .ok (.goto (-21), 3) := by decide +kernel
theorem dX4_reserved_28 : decode cX4_reserved 28 = .ok (.iload_n 1, 1) := by decide +kernel
theorem dX4_reserved_29 : decode cX4_reserved 29 = .ok (.ireturn, 1) := by decide +kernel
theorem dX4_kept_0 : decode cX4_kept 0 = .ok (.iconst 0, 1) := by decide +kernel
theorem dX4_kept_1 : decode cX4_kept 1 = .ok (.istore_n 1, 1) := by decide +kernel
theorem dX4_kept_2 : decode cX4_kept 2 = .ok (.iconst 0, 1) := by decide +kernel
theorem dX4_kept_3 : decode cX4_kept 3 = .ok (.istore_n 2, 1) := by decide +kernel
theorem dX4_kept_4 : decode cX4_kept 4 = .ok (.iload_n 2, 1) := by decide +kernel
theorem dX4_kept_5 : decode cX4_kept 5 = .ok (.bipush 16, 2) := by decide +kernel
theorem dX4_kept_7 : decode cX4_kept 7 = .ok (.if_icmp .ge 21, 3) := by decide +kernel
theorem dX4_kept_10 : decode cX4_kept 10 = .ok (.iload_n 1, 1) := by decide +kernel
theorem dX4_kept_11 : decode cX4_kept 11 = .ok (.aload_n 0, 1) := by decide +kernel
theorem dX4_kept_12 : decode cX4_kept 12 = .ok (.getfield 25, 3) := by decide +kernel
theorem dX4_kept_15 : decode cX4_kept 15 = .ok (.iload_n 2, 1) := by decide +kernel
theorem dX4_kept_16 : decode cX4_kept 16 = .ok (.aaload, 1) := by decide +kernel
theorem dX4_kept_17 : decode cX4_kept 17 = .ok (.getfield 154, 3) := by decide +kernel
theorem dX4_kept_20 : decode cX4_kept 20 = .ok (.iadd, 1) := by decide +kernel
theorem dX4_kept_21 : decode cX4_kept 21 = .ok (.istore_n 1, 1) := by decide +kernel
theorem dX4_kept_22 : decode cX4_kept 22 = .ok (.iinc 2 1, 3) := by decide +kernel
theorem dX4_kept_25 : decode cX4_kept 25 = .ok (.goto (-21), 3) := by decide +kernel
theorem dX4_kept_28 : decode cX4_kept 28 = .ok (.iload_n 1, 1) := by decide +kernel
theorem dX4_kept_29 : decode cX4_kept 29 = .ok (.ireturn, 1) := by decide +kernel
set_option maxRecDepth 20000 in
theorem ggX4_pieces_X4_requireRange : GoodIn wsX4_pieces wsX4_requireRange := goodIn_ca (goodIn_r _ [7, 8, 9] (by decide +kernel) (by decide +kernel)) (goodIn_sub (fun _ h => List.mem_cons_of_mem _ (List.mem_append_right _ h)) (by decide +kernel))
set_option maxRecDepth 20000 in
theorem gX4_pieces_X4_requireRange : GoodIn wsX4_pieces (va_wsS RX4 97 yX4_requireRange wsX4_requireRange) := goodIn_app (goodIn_of _ (by decide +kernel)) ggX4_pieces_X4_requireRange
set_option maxRecDepth 20000 in
theorem ggX4_pieces_X2_countPieces : GoodIn wsX4_pieces wsX2_countPieces := goodIn_r _ [13, 14, 15, 16, 11, 17, 18, 19, 20, 21, 22, 28, 29] (by decide +kernel) (by decide +kernel)
set_option maxRecDepth 20000 in
theorem gX4_pieces_X2_countPieces_n165 : GoodIn wsX4_pieces (wsX2_countPieces) := ggX4_pieces_X2_countPieces
theorem dX4_pieces_0 : decode cX4_pieces 0 = .ok (.iload_n 1, 1) := by decide +kernel
theorem dX4_pieces_1 : decode cX4_pieces 1 = .ok (.ifCond .lt 8, 3) := by decide +kernel
theorem dX4_pieces_4 : decode cX4_pieces 4 = .ok (.iload_n 1, 1) := by decide +kernel
theorem dX4_pieces_5 : decode cX4_pieces 5 = .ok (.iconst 4, 1) := by decide +kernel
theorem dX4_pieces_6 : decode cX4_pieces 6 = .ok (.if_icmp .lt 13, 3) := by decide +kernel
theorem dX4_pieces_9 : decode cX4_pieces 9 = .ok (.new 160, 3) := by decide +kernel
theorem dX4_pieces_12 : decode cX4_pieces 12 = .ok (.dup, 1) := by decide +kernel
theorem dX4_pieces_13 : decode cX4_pieces 13 = .ok (.ldc 162, 2) := by decide +kernel
theorem dX4_pieces_15 : decode cX4_pieces 15 = .ok (.invokespecial 164, 3) := by decide +kernel
theorem dX4_pieces_18 : decode cX4_pieces 18 = .ok (.athrow, 1) := by decide +kernel
theorem dX4_pieces_19 : decode cX4_pieces 19 = .ok (.iload_n 2, 1) := by decide +kernel
theorem dX4_pieces_20 : decode cX4_pieces 20 = .ok (.iconst 0, 1) := by decide +kernel
theorem dX4_pieces_21 : decode cX4_pieces 21 = .ok (.iconst 5, 1) := by decide +kernel
theorem dX4_pieces_22 : decode cX4_pieces 22 = .ok (.invokestatic 97, 3) := by decide +kernel
theorem dX4_pieces_25 : decode cX4_pieces 25 = .ok (.aload_n 0, 1) := by decide +kernel
theorem dX4_pieces_26 : decode cX4_pieces 26 = .ok (.getfield 10, 3) := by decide +kernel
theorem dX4_pieces_29 : decode cX4_pieces 29 = .ok (.iload_n 1, 1) := by decide +kernel
theorem dX4_pieces_30 : decode cX4_pieces 30 = .ok (.iconst 1, 1) := by decide +kernel
theorem dX4_pieces_31 : decode cX4_pieces 31 = .ok (.iload_n 2, 1) := by decide +kernel
theorem dX4_pieces_32 : decode cX4_pieces 32 = .ok (.ishl, 1) := by decide +kernel
theorem dX4_pieces_33 : decode cX4_pieces 33 = .ok (.invokevirtual 165, 3) := by decide +kernel
theorem dX4_pieces_36 : decode cX4_pieces 36 = .ok (.ireturn, 1) := by decide +kernel
set_option maxRecDepth 20000 in
theorem ggX4_isFree_X2_areFree : GoodIn wsX4_isFree wsX2_areFree := goodIn_r _ [7, 8, 14, 15] (by decide +kernel) (by decide +kernel)
set_option maxRecDepth 20000 in
theorem gX4_isFree_X2_areFree_n170 : GoodIn wsX4_isFree (wsX2_areFree) := ggX4_isFree_X2_areFree
theorem dX4_isFree_0 : decode cX4_isFree 0 = .ok (.iload_n 1, 1) := by decide +kernel
theorem dX4_isFree_1 : decode cX4_isFree 1 = .ok (.ifCond .lt 10, 3) := by decide +kernel
theorem dX4_isFree_4 : decode cX4_isFree 4 = .ok (.iload_n 1, 1) := by decide +kernel
theorem dX4_isFree_5 : decode cX4_isFree 5 = .ok (.sipush 128, 3) := by decide +kernel
theorem dX4_isFree_8 : decode cX4_isFree 8 = .ok (.if_icmp .lt 13, 3) := by decide +kernel
theorem dX4_isFree_11 : decode cX4_isFree 11 = .ok (.new 160, 3) := by decide +kernel
theorem dX4_isFree_14 : decode cX4_isFree 14 = .ok (.dup, 1) := by decide +kernel
theorem dX4_isFree_15 : decode cX4_isFree 15 = .ok (.ldc 168, 2) := by decide +kernel
theorem dX4_isFree_17 : decode cX4_isFree 17 = .ok (.invokespecial 164, 3) := by decide +kernel
theorem dX4_isFree_20 : decode cX4_isFree 20 = .ok (.athrow, 1) := by decide +kernel
theorem dX4_isFree_21 : decode cX4_isFree 21 = .ok (.aload_n 0, 1) := by decide +kernel
theorem dX4_isFree_22 : decode cX4_isFree 22 = .ok (.getfield 10, 3) := by decide +kernel
theorem dX4_isFree_25 : decode cX4_isFree 25 = .ok (.iload_n 1, 1) := by decide +kernel
theorem dX4_isFree_26 : decode cX4_isFree 26 = .ok (.iconst 1, 1) := by decide +kernel
theorem dX4_isFree_27 : decode cX4_isFree 27 = .ok (.invokevirtual 170, 3) := by decide +kernel
theorem dX4_isFree_30 : decode cX4_isFree 30 = .ok (.ireturn, 1) := by decide +kernel
set_option maxRecDepth 20000 in
theorem ggX4_blockAt_X4_requireContent : GoodIn wsX4_blockAt wsX4_requireContent := goodIn_ca (goodIn_r _ [5, 6, 7, 8, 25, 26, 27, 28, 29, 14, 15, 16, 17, 18, 19, 20, 21, 22, 23, 24] (by decide +kernel) (by decide +kernel)) (goodIn_sub (fun _ h => List.mem_cons_of_mem _ (List.mem_append_left _ (List.mem_append_right _ h))) (by decide +kernel))
set_option maxRecDepth 20000 in
theorem gX4_blockAt_X4_requireContent : GoodIn wsX4_blockAt (wsV RX4 78 RX4 yX4_requireContent wsX4_requireContent) := goodIn_app (goodIn_of _ (by decide +kernel)) ggX4_blockAt_X4_requireContent
set_option maxRecDepth 20000 in
theorem ggX4_blockAt_X4_requireRange : GoodIn wsX4_blockAt wsX4_requireRange := goodIn_ca (goodIn_r _ [11, 12, 13] (by decide +kernel) (by decide +kernel)) (goodIn_sub (fun _ h => List.mem_cons_of_mem _ (List.mem_append_right _ h)) (by decide +kernel))
set_option maxRecDepth 20000 in
theorem gX4_blockAt_X4_requireRange : GoodIn wsX4_blockAt (va_wsS RX4 97 yX4_requireRange wsX4_requireRange) := goodIn_app (goodIn_of _ (by decide +kernel)) ggX4_blockAt_X4_requireRange
theorem dX4_blockAt_0 : decode cX4_blockAt 0 = .ok (.aload_n 0, 1) := by decide +kernel
theorem dX4_blockAt_1 : decode cX4_blockAt 1 = .ok (.iload_n 1, 1) := by decide +kernel
theorem dX4_blockAt_2 : decode cX4_blockAt 2 = .ok (.invokevirtual 78, 3) := by decide +kernel
theorem dX4_blockAt_5 : decode cX4_blockAt 5 = .ok (.astore_n 3, 1) := by decide +kernel
theorem dX4_blockAt_6 : decode cX4_blockAt 6 = .ok (.iload_n 2, 1) := by decide +kernel
theorem dX4_blockAt_7 : decode cX4_blockAt 7 = .ok (.iconst 0, 1) := by decide +kernel
theorem dX4_blockAt_8 : decode cX4_blockAt 8 = .ok (.bipush 63, 2) := by decide +kernel
theorem dX4_blockAt_10 : decode cX4_blockAt 10 = .ok (.invokestatic 97, 3) := by decide +kernel
theorem dX4_blockAt_13 : decode cX4_blockAt 13 = .ok (.aload_n 3, 1) := by decide +kernel
theorem dX4_blockAt_14 : decode cX4_blockAt 14 = .ok (.getfield 174, 3) := by decide +kernel
theorem dX4_blockAt_17 : decode cX4_blockAt 17 = .ok (.iload_n 2, 1) := by decide +kernel
theorem dX4_blockAt_18 : decode cX4_blockAt 18 = .ok (.iaload, 1) := by decide +kernel
theorem dX4_blockAt_19 : decode cX4_blockAt 19 = .ok (.ireturn, 1) := by decide +kernel
set_option maxRecDepth 20000 in
theorem ggX4_extents_X4_requireContent : GoodIn wsX4_extents wsX4_requireContent := goodIn_ca (goodIn_r _ [5, 6, 7, 8, 26, 27, 28, 29, 30, 31, 32, 33, 34, 35, 36, 37, 38, 39, 40, 41] (by decide +kernel) (by decide +kernel)) (goodIn_sub (fun _ h => List.mem_cons_of_mem _ (List.mem_append_right _ h)) (by decide +kernel))
set_option maxRecDepth 20000 in
theorem gX4_extents_X4_requireContent : GoodIn wsX4_extents (wsV RX4 78 RX4 yX4_requireContent wsX4_requireContent) := goodIn_app (goodIn_of _ (by decide +kernel)) ggX4_extents_X4_requireContent
set_option maxRecDepth 20000 in
theorem ggX4_extents_X0_countExtents : GoodIn wsX4_extents wsX0_countExtents := goodIn_r _ [12, 13, 14, 15, 10, 16, 17, 18, 19, 20, 21, 22, 23, 24, 25, 31, 32, 33, 34, 35, 36, 37, 38, 39, 40, 41] (by decide +kernel) (by decide +kernel)
set_option maxRecDepth 20000 in
theorem gX4_extents_X0_countExtents_n178 : GoodIn wsX4_extents (wsX0_countExtents) := ggX4_extents_X0_countExtents
theorem dX4_extents_0 : decode cX4_extents 0 = .ok (.aload_n 0, 1) := by decide +kernel
theorem dX4_extents_1 : decode cX4_extents 1 = .ok (.iload_n 1, 1) := by decide +kernel
theorem dX4_extents_2 : decode cX4_extents 2 = .ok (.invokevirtual 78, 3) := by decide +kernel
theorem dX4_extents_5 : decode cX4_extents 5 = .ok (.invokevirtual 178, 3) := by decide +kernel
theorem dX4_extents_8 : decode cX4_extents 8 = .ok (.ireturn, 1) := by decide +kernel
set_option maxRecDepth 20000 in
theorem ggX4_extent_X4_requireContent : GoodIn wsX4_extent wsX4_requireContent := goodIn_ca (goodIn_r _ [7, 1, 2, 8, 40, 41, 42, 43, 44, 29, 30, 31, 32, 33, 34, 35, 36, 37, 38, 39] (by decide +kernel) (by decide +kernel)) (goodIn_sub (fun _ h => List.mem_cons_of_mem _ (List.mem_append_right _ h)) (by decide +kernel))
set_option maxRecDepth 20000 in
theorem gX4_extent_X4_requireContent : GoodIn wsX4_extent (wsV RX4 78 RX4 yX4_requireContent wsX4_requireContent) := goodIn_app (goodIn_of _ (by decide +kernel)) ggX4_extent_X4_requireContent
set_option maxRecDepth 20000 in
theorem ggX4_extent_X0_beginOfExtent : GoodIn wsX4_extent wsX0_beginOfExtent := goodIn_r _ [12, 13, 14, 15, 10, 16, 17, 18, 19, 20, 21, 22, 23, 24, 25, 29, 30, 31, 32, 33, 34, 35, 36, 37, 38, 39] (by decide +kernel) (by decide +kernel)
set_option maxRecDepth 20000 in
theorem gX4_extent_X0_beginOfExtent_n181 : GoodIn wsX4_extent (wsX0_beginOfExtent) := ggX4_extent_X0_beginOfExtent
set_option maxRecDepth 20000 in
theorem ggX4_extent_X0_lengthOfExtent : GoodIn wsX4_extent wsX0_lengthOfExtent := goodIn_r _ [28, 22, 23, 24, 10, 25, 21, 17, 18, 19, 20, 29, 30, 31, 32, 33, 34, 35, 36, 37, 38, 39] (by decide +kernel) (by decide +kernel)
set_option maxRecDepth 20000 in
theorem gX4_extent_X0_lengthOfExtent_n186 : GoodIn wsX4_extent (wsX0_lengthOfExtent) := ggX4_extent_X0_lengthOfExtent
theorem dX4_extent_0 : decode cX4_extent 0 = .ok (.aload_n 0, 1) := by decide +kernel
theorem dX4_extent_1 : decode cX4_extent 1 = .ok (.iload_n 1, 1) := by decide +kernel
theorem dX4_extent_2 : decode cX4_extent 2 = .ok (.invokevirtual 78, 3) := by decide +kernel
theorem dX4_extent_5 : decode cX4_extent 5 = .ok (.astore_n 3, 1) := by decide +kernel
theorem dX4_extent_6 : decode cX4_extent 6 = .ok (.aload_n 3, 1) := by decide +kernel
theorem dX4_extent_7 : decode cX4_extent 7 = .ok (.iload_n 2, 1) := by decide +kernel
theorem dX4_extent_8 : decode cX4_extent 8 = .ok (.invokevirtual 181, 3) := by decide +kernel
theorem dX4_extent_11 : decode cX4_extent 11 = .ok (.istore 4, 2) := by decide +kernel
theorem dX4_extent_13 : decode cX4_extent 13 = .ok (.iload 4, 2) := by decide +kernel
theorem dX4_extent_15 : decode cX4_extent 15 = .ok (.ifCond .lt 10, 3) := by decide +kernel
theorem dX4_extent_18 : decode cX4_extent 18 = .ok (.iload 4, 2) := by decide +kernel
theorem dX4_extent_20 : decode cX4_extent 20 = .ok (.bipush 64, 2) := by decide +kernel
theorem dX4_extent_22 : decode cX4_extent 22 = .ok (.if_icmp .lt 13, 3) := by decide +kernel
theorem dX4_extent_25 : decode cX4_extent 25 = .ok (.new 160, 3) := by decide +kernel
theorem dX4_extent_28 : decode cX4_extent 28 = .ok (.dup, 1) := by decide +kernel
theorem dX4_extent_29 : decode cX4_extent 29 = .ok (.ldc 184, 2) := by decide +kernel
theorem dX4_extent_31 : decode cX4_extent 31 = .ok (.invokespecial 164, 3) := by decide +kernel
theorem dX4_extent_34 : decode cX4_extent 34 = .ok (.athrow, 1) := by decide +kernel
theorem dX4_extent_35 : decode cX4_extent 35 = .ok (.sipush 10000, 3) := by decide +kernel
theorem dX4_extent_38 : decode cX4_extent 38 = .ok (.iload 4, 2) := by decide +kernel
theorem dX4_extent_40 : decode cX4_extent 40 = .ok (.imul, 1) := by decide +kernel
theorem dX4_extent_41 : decode cX4_extent 41 = .ok (.bipush 100, 2) := by decide +kernel
theorem dX4_extent_43 : decode cX4_extent 43 = .ok (.aload_n 3, 1) := by decide +kernel
theorem dX4_extent_44 : decode cX4_extent 44 = .ok (.iload 4, 2) := by decide +kernel
theorem dX4_extent_46 : decode cX4_extent 46 = .ok (.invokevirtual 186, 3) := by decide +kernel
theorem dX4_extent_49 : decode cX4_extent 49 = .ok (.imul, 1) := by decide +kernel
theorem dX4_extent_50 : decode cX4_extent 50 = .ok (.iadd, 1) := by decide +kernel
theorem dX4_extent_51 : decode cX4_extent 51 = .ok (.aload_n 3, 1) := by decide +kernel
theorem dX4_extent_52 : decode cX4_extent 52 = .ok (.getfield 174, 3) := by decide +kernel
theorem dX4_extent_55 : decode cX4_extent 55 = .ok (.iload 4, 2) := by decide +kernel
theorem dX4_extent_57 : decode cX4_extent 57 = .ok (.iaload, 1) := by decide +kernel
theorem dX4_extent_58 : decode cX4_extent 58 = .ok (.bipush 100, 2) := by decide +kernel
theorem dX4_extent_60 : decode cX4_extent 60 = .ok (.irem, 1) := by decide +kernel
theorem dX4_extent_61 : decode cX4_extent 61 = .ok (.iadd, 1) := by decide +kernel
theorem dX4_extent_62 : decode cX4_extent 62 = .ok (.ireturn, 1) := by decide +kernel
set_option maxRecDepth 20000 in
theorem ggX4_fileOf_X4_requireName : GoodIn wsX4_fileOf wsX4_requireName := goodIn_ca (goodIn_r _ [5, 6, 7, 4, 8, 9, 10] (by decide +kernel) (by decide +kernel)) (goodIn_sub (fun _ h => List.mem_cons_of_mem _ (List.mem_append_right _ h)) (by decide +kernel))
set_option maxRecDepth 20000 in
theorem gX4_fileOf_X4_requireName : GoodIn wsX4_fileOf (va_wsS RX4 40 yX4_requireName wsX4_requireName) := goodIn_app (goodIn_of _ (by decide +kernel)) ggX4_fileOf_X4_requireName
set_option maxRecDepth 20000 in
theorem ggX4_fileOf_X1_fileWith : GoodIn wsX4_fileOf wsX1_fileWith := goodIn_r _ [14, 15, 16, 17, 12, 18, 19, 4, 20, 21, 22, 23, 24, 25, 26, 27, 28, 29, 30, 31, 32, 33, 34, 35, 36, 37, 38, 39, 40, 41, 42, 43, 44, 45, 46, 47, 48, 54, 55, 56, 57, 58, 59, 60, 61, 62] (by decide +kernel) (by decide +kernel)
set_option maxRecDepth 20000 in
theorem gX4_fileOf_X1_fileWith_n50 : GoodIn wsX4_fileOf (wsX1_fileWith) := ggX4_fileOf_X1_fileWith
theorem dX4_fileOf_0 : decode cX4_fileOf 0 = .ok (.iload_n 1, 1) := by decide +kernel
theorem dX4_fileOf_1 : decode cX4_fileOf 1 = .ok (.invokestatic 40, 3) := by decide +kernel
theorem dX4_fileOf_4 : decode cX4_fileOf 4 = .ok (.aload_n 0, 1) := by decide +kernel
theorem dX4_fileOf_5 : decode cX4_fileOf 5 = .ok (.getfield 19, 3) := by decide +kernel
theorem dX4_fileOf_8 : decode cX4_fileOf 8 = .ok (.iload_n 1, 1) := by decide +kernel
theorem dX4_fileOf_9 : decode cX4_fileOf 9 = .ok (.invokevirtual 50, 3) := by decide +kernel
theorem dX4_fileOf_12 : decode cX4_fileOf 12 = .ok (.ireturn, 1) := by decide +kernel
theorem dX4_leaves_0 : decode cX4_leaves 0 = .ok (.aload_n 0, 1) := by decide +kernel
theorem dX4_leaves_1 : decode cX4_leaves 1 = .ok (.getfield 19, 3) := by decide +kernel
theorem dX4_leaves_4 : decode cX4_leaves 4 = .ok (.getfield 189, 3) := by decide +kernel
theorem dX4_leaves_7 : decode cX4_leaves 7 = .ok (.ireturn, 1) := by decide +kernel
set_option maxRecDepth 20000 in
theorem ggX4_looks_X4_requireName : GoodIn wsX4_looks wsX4_requireName := goodIn_ca (goodIn_r _ [5, 6, 7, 4, 8, 9, 10] (by decide +kernel) (by decide +kernel)) (goodIn_sub (fun _ h => List.mem_cons_of_mem _ (List.mem_append_right _ h)) (by decide +kernel))
set_option maxRecDepth 20000 in
theorem gX4_looks_X4_requireName : GoodIn wsX4_looks (va_wsS RX4 40 yX4_requireName wsX4_requireName) := goodIn_app (goodIn_of _ (by decide +kernel)) ggX4_looks_X4_requireName
set_option maxRecDepth 20000 in
theorem ggX4_looks_X1_countLooks : GoodIn wsX4_looks wsX1_countLooks := goodIn_r _ [14, 15, 16, 17, 12, 18, 19, 4, 20, 21, 22, 23, 24, 25, 26, 27, 28, 29, 30, 31, 32, 33, 34, 35, 36, 37, 38, 39, 40, 41, 42, 43, 44, 50, 51, 52, 53, 54, 55, 56, 57, 58] (by decide +kernel) (by decide +kernel)
set_option maxRecDepth 20000 in
theorem gX4_looks_X1_countLooks_n192 : GoodIn wsX4_looks (wsX1_countLooks) := ggX4_looks_X1_countLooks
theorem dX4_looks_0 : decode cX4_looks 0 = .ok (.iload_n 1, 1) := by decide +kernel
theorem dX4_looks_1 : decode cX4_looks 1 = .ok (.invokestatic 40, 3) := by decide +kernel
theorem dX4_looks_4 : decode cX4_looks 4 = .ok (.aload_n 0, 1) := by decide +kernel
theorem dX4_looks_5 : decode cX4_looks 5 = .ok (.getfield 19, 3) := by decide +kernel
theorem dX4_looks_8 : decode cX4_looks 8 = .ok (.iload_n 1, 1) := by decide +kernel
theorem dX4_looks_9 : decode cX4_looks 9 = .ok (.invokevirtual 192, 3) := by decide +kernel
theorem dX4_looks_12 : decode cX4_looks 12 = .ok (.ireturn, 1) := by decide +kernel
theorem dX4_requireRange_0 : decode cX4_requireRange 0 = .ok (.iload_n 0, 1) := by decide +kernel
theorem dX4_requireRange_1 : decode cX4_requireRange 1 = .ok (.iload_n 1, 1) := by decide +kernel
theorem dX4_requireRange_2 : decode cX4_requireRange 2 = .ok (.if_icmp .lt 8, 3) := by decide +kernel
theorem dX4_requireRange_5 : decode cX4_requireRange 5 = .ok (.iload_n 0, 1) := by decide +kernel
theorem dX4_requireRange_6 : decode cX4_requireRange 6 = .ok (.iload_n 2, 1) := by decide +kernel
theorem dX4_requireRange_7 : decode cX4_requireRange 7 = .ok (.if_icmp .le 13, 3) := by decide +kernel
theorem dX4_requireRange_10 : decode cX4_requireRange 10 = .ok (.new 195, 3) := by decide +kernel
theorem dX4_requireRange_13 : decode cX4_requireRange 13 = .ok (.dup, 1) := by decide +kernel
theorem dX4_requireRange_14 : decode cX4_requireRange 14 = .ok (.ldc 197, 2) := by decide +kernel
theorem dX4_requireRange_16 : decode cX4_requireRange 16 = .ok (.invokespecial 199, 3) := by decide +kernel
theorem dX4_requireRange_19 : decode cX4_requireRange 19 = .ok (.athrow, 1) := by decide +kernel
theorem dX4_requireRange_20 : decode cX4_requireRange 20 = .ok (.return_, 1) := by decide +kernel
set_option maxRecDepth 20000 in
theorem ggX4_requireName_X4_requireRange : GoodIn wsX4_requireName wsX4_requireRange := goodIn_ca (goodIn_r _ [4, 5, 6] (by decide +kernel) (by decide +kernel)) (goodIn_sub (fun _ h => List.mem_cons_of_mem _ (List.mem_append_right _ h)) (by decide +kernel))
set_option maxRecDepth 20000 in
theorem gX4_requireName_X4_requireRange : GoodIn wsX4_requireName (va_wsS RX4 97 yX4_requireRange wsX4_requireRange) := goodIn_app (goodIn_of _ (by decide +kernel)) ggX4_requireName_X4_requireRange
theorem dX4_requireName_0 : decode cX4_requireName 0 = .ok (.iload_n 0, 1) := by decide +kernel
theorem dX4_requireName_1 : decode cX4_requireName 1 = .ok (.iconst 0, 1) := by decide +kernel
theorem dX4_requireName_2 : decode cX4_requireName 2 = .ok (.sipush 999, 3) := by decide +kernel
theorem dX4_requireName_5 : decode cX4_requireName 5 = .ok (.invokestatic 97, 3) := by decide +kernel
theorem dX4_requireName_8 : decode cX4_requireName 8 = .ok (.return_, 1) := by decide +kernel
theorem dX4_requireUp_0 : decode cX4_requireUp 0 = .ok (.aload_n 0, 1) := by decide +kernel
theorem dX4_requireUp_1 : decode cX4_requireUp 1 = .ok (.getfield 33, 3) := by decide +kernel
theorem dX4_requireUp_4 : decode cX4_requireUp 4 = .ok (.ifCond .eq 13, 3) := by decide +kernel
theorem dX4_requireUp_7 : decode cX4_requireUp 7 = .ok (.new 58, 3) := by decide +kernel
theorem dX4_requireUp_10 : decode cX4_requireUp 10 = .ok (.dup, 1) := by decide +kernel
theorem dX4_requireUp_11 : decode cX4_requireUp 11 = .ok (.ldc 200, 2) := by decide +kernel
theorem dX4_requireUp_13 : decode cX4_requireUp 13 = .ok (.invokespecial 62, 3) := by decide +kernel
theorem dX4_requireUp_16 : decode cX4_requireUp 16 = .ok (.athrow, 1) := by decide +kernel
theorem dX4_requireUp_17 : decode cX4_requireUp 17 = .ok (.return_, 1) := by decide +kernel
theorem dX4_requireContent_0 : decode cX4_requireContent 0 = .ok (.iload_n 1, 1) := by decide +kernel
theorem dX4_requireContent_1 : decode cX4_requireContent 1 = .ok (.ifCond .lt 21, 3) := by decide +kernel
theorem dX4_requireContent_4 : decode cX4_requireContent 4 = .ok (.iload_n 1, 1) := by decide +kernel
theorem dX4_requireContent_5 : decode cX4_requireContent 5 = .ok (.bipush 16, 2) := by decide +kernel
theorem dX4_requireContent_7 : decode cX4_requireContent 7 = .ok (.if_icmp .ge 15, 3) := by decide +kernel
theorem dX4_requireContent_10 : decode cX4_requireContent 10 = .ok (.aload_n 0, 1) := by decide +kernel
theorem dX4_requireContent_11 : decode cX4_requireContent 11 = .ok (.getfield 25, 3) := by decide +kernel
theorem dX4_requireContent_14 : decode cX4_requireContent 14 = .ok (.iload_n 1, 1) := by decide +kernel
theorem dX4_requireContent_15 : decode cX4_requireContent 15 = .ok (.aaload, 1) := by decide +kernel
theorem dX4_requireContent_16 : decode cX4_requireContent 16 = .ok (.getfield 145, 3) := by decide +kernel
theorem dX4_requireContent_19 : decode cX4_requireContent 19 = .ok (.ifCond .ne 13, 3) := by decide +kernel
theorem dX4_requireContent_22 : decode cX4_requireContent 22 = .ok (.new 160, 3) := by decide +kernel
theorem dX4_requireContent_25 : decode cX4_requireContent 25 = .ok (.dup, 1) := by decide +kernel
theorem dX4_requireContent_26 : decode cX4_requireContent 26 = .ok (.ldc 202, 2) := by decide +kernel
theorem dX4_requireContent_28 : decode cX4_requireContent 28 = .ok (.invokespecial 164, 3) := by decide +kernel
theorem dX4_requireContent_31 : decode cX4_requireContent 31 = .ok (.athrow, 1) := by decide +kernel
theorem dX4_requireContent_32 : decode cX4_requireContent 32 = .ok (.aload_n 0, 1) := by decide +kernel
theorem dX4_requireContent_33 : decode cX4_requireContent 33 = .ok (.getfield 25, 3) := by decide +kernel
theorem dX4_requireContent_36 : decode cX4_requireContent 36 = .ok (.iload_n 1, 1) := by decide +kernel
theorem dX4_requireContent_37 : decode cX4_requireContent 37 = .ok (.aaload, 1) := by decide +kernel
theorem dX4_requireContent_38 : decode cX4_requireContent 38 = .ok (.areturn, 1) := by decide +kernel
set_option maxRecDepth 20000 in
theorem ggX4_requireFileWith_X1_fileWith : GoodIn wsX4_requireFileWith wsX1_fileWith := goodIn_r _ [7, 8, 9, 10, 5, 11, 12, 13, 14, 15, 16, 17, 18, 19, 20, 21, 22, 23, 24, 25, 26, 27, 28, 29, 30, 31, 32, 33, 34, 35, 36, 37, 38, 39, 40, 41, 42, 48, 49, 50, 51, 52, 53, 54, 55, 56] (by decide +kernel) (by decide +kernel)
set_option maxRecDepth 20000 in
theorem gX4_requireFileWith_X1_fileWith_n50 : GoodIn wsX4_requireFileWith (wsX1_fileWith) := ggX4_requireFileWith_X1_fileWith
theorem dX4_requireFileWith_0 : decode cX4_requireFileWith 0 = .ok (.aload_n 0, 1) := by decide +kernel
theorem dX4_requireFileWith_1 : decode cX4_requireFileWith 1 = .ok (.getfield 19, 3) := by decide +kernel
theorem dX4_requireFileWith_4 : decode cX4_requireFileWith 4 = .ok (.iload_n 1, 1) := by decide +kernel
theorem dX4_requireFileWith_5 : decode cX4_requireFileWith 5 = .ok (.invokevirtual 50, 3) := by decide +kernel
theorem dX4_requireFileWith_8 : decode cX4_requireFileWith 8 = .ok (.istore_n 2, 1) := by decide +kernel
theorem dX4_requireFileWith_9 : decode cX4_requireFileWith 9 = .ok (.iload_n 2, 1) := by decide +kernel
theorem dX4_requireFileWith_10 : decode cX4_requireFileWith 10 = .ok (.ifCond .lt 9, 3) := by decide +kernel
theorem dX4_requireFileWith_13 : decode cX4_requireFileWith 13 = .ok (.iload_n 2, 1) := by decide +kernel
theorem dX4_requireFileWith_14 : decode cX4_requireFileWith 14 = .ok (.bipush 16, 2) := by decide +kernel
theorem dX4_requireFileWith_16 : decode cX4_requireFileWith 16 = .ok (.if_icmp .lt 13, 3) := by decide +kernel
theorem dX4_requireFileWith_19 : decode cX4_requireFileWith 19 = .ok (.new 58, 3) := by decide +kernel
theorem dX4_requireFileWith_22 : decode cX4_requireFileWith 22 = .ok (.dup, 1) := by decide +kernel
theorem dX4_requireFileWith_23 : decode cX4_requireFileWith 23 = .ok (.ldc 204, 2) := by decide +kernel
theorem dX4_requireFileWith_25 : decode cX4_requireFileWith 25 = .ok (.invokespecial 62, 3) := by decide +kernel
theorem dX4_requireFileWith_28 : decode cX4_requireFileWith 28 = .ok (.athrow, 1) := by decide +kernel
theorem dX4_requireFileWith_29 : decode cX4_requireFileWith 29 = .ok (.iload_n 2, 1) := by decide +kernel
theorem dX4_requireFileWith_30 : decode cX4_requireFileWith 30 = .ok (.ireturn, 1) := by decide +kernel
theorem dX4_lowestUnusedFile_0 : decode cX4_lowestUnusedFile 0 = .ok (.iconst 0, 1) := by decide +kernel
theorem dX4_lowestUnusedFile_1 : decode cX4_lowestUnusedFile 1 = .ok (.istore_n 1, 1) := by decide +kernel
theorem dX4_lowestUnusedFile_2 : decode cX4_lowestUnusedFile 2 = .ok (.iload_n 1, 1) := by decide +kernel
theorem dX4_lowestUnusedFile_3 : decode cX4_lowestUnusedFile 3 = .ok (.bipush 16, 2) := by decide +kernel
theorem dX4_lowestUnusedFile_5 : decode cX4_lowestUnusedFile 5 = .ok (.if_icmp .ge 23, 3) := by decide +kernel
theorem dX4_lowestUnusedFile_8 : decode cX4_lowestUnusedFile 8 = .ok (.aload_n 0, 1) := by decide +kernel
theorem dX4_lowestUnusedFile_9 : decode cX4_lowestUnusedFile 9 = .ok (.getfield 25, 3) := by decide +kernel
theorem dX4_lowestUnusedFile_12 : decode cX4_lowestUnusedFile 12 = .ok (.iload_n 1, 1) := by decide +kernel
theorem dX4_lowestUnusedFile_13 : decode cX4_lowestUnusedFile 13 = .ok (.aaload, 1) := by decide +kernel
theorem dX4_lowestUnusedFile_14 : decode cX4_lowestUnusedFile 14 = .ok (.getfield 145, 3) := by decide +kernel
theorem dX4_lowestUnusedFile_17 : decode cX4_lowestUnusedFile 17 = .ok (.ifCond .ne 5, 3) := by decide +kernel
theorem dX4_lowestUnusedFile_20 : decode cX4_lowestUnusedFile 20 = .ok (.iload_n 1, 1) := by decide +kernel
theorem dX4_lowestUnusedFile_21 : decode cX4_lowestUnusedFile 21 = .ok (.ireturn, 1) := by decide +kernel
theorem dX4_lowestUnusedFile_22 : decode cX4_lowestUnusedFile 22 = .ok (.iinc 1 1, 3) := by decide +kernel
theorem dX4_lowestUnusedFile_25 : decode cX4_lowestUnusedFile 25 = .ok (.goto (-23), 3) := by decide +kernel
theorem dX4_lowestUnusedFile_28 : decode cX4_lowestUnusedFile 28 = .ok (.iconst (-1), 1) := by decide +kernel
theorem dX4_lowestUnusedFile_29 : decode cX4_lowestUnusedFile 29 = .ok (.ireturn, 1) := by decide +kernel
set_option maxRecDepth 20000 in
theorem ggX4_left_X4_free : GoodIn wsX4_left wsX4_free := goodIn_r _ [5, 6, 12, 13, 14, 15, 16, 17, 18] (by decide +kernel) (by decide +kernel)
set_option maxRecDepth 20000 in
theorem gX4_left_X4_free : GoodIn wsX4_left (wsV RX4 206 RX4 yX4_free wsX4_free) := goodIn_app (goodIn_of _ (by decide +kernel)) ggX4_left_X4_free
set_option maxRecDepth 20000 in
theorem ggX4_left_X4_reserved : GoodIn wsX4_left wsX4_reserved := goodIn_r _ [10, 11, 12, 13, 14, 15, 16, 19, 20, 21, 22, 23, 24, 25, 26, 27, 28, 29] (by decide +kernel) (by decide +kernel)
set_option maxRecDepth 20000 in
theorem gX4_left_X4_reserved : GoodIn wsX4_left (wsV RX4 209 RX4 yX4_reserved wsX4_reserved) := goodIn_app (goodIn_of _ (by decide +kernel)) ggX4_left_X4_reserved
theorem dX4_left_0 : decode cX4_left 0 = .ok (.aload_n 0, 1) := by decide +kernel
theorem dX4_left_1 : decode cX4_left 1 = .ok (.invokevirtual 206, 3) := by decide +kernel
theorem dX4_left_4 : decode cX4_left 4 = .ok (.aload_n 0, 1) := by decide +kernel
theorem dX4_left_5 : decode cX4_left 5 = .ok (.invokevirtual 209, 3) := by decide +kernel
theorem dX4_left_8 : decode cX4_left 8 = .ok (.isub, 1) := by decide +kernel
theorem dX4_left_9 : decode cX4_left 9 = .ok (.ireturn, 1) := by decide +kernel
set_option maxRecDepth 20000 in
theorem ggX4_releaseKept_X2_release : GoodIn wsX4_releaseKept wsX2_release := goodIn_r _ [5, 6, 7, 8, 3, 9, 10, 11, 28, 29] (by decide +kernel) (by decide +kernel)
set_option maxRecDepth 20000 in
theorem gX4_releaseKept_X2_release_n215 : GoodIn wsX4_releaseKept (wsX2_release) := ggX4_releaseKept_X2_release
theorem dX4_releaseKept_0 : decode cX4_releaseKept 0 = .ok (.aload_n 0, 1) := by decide +kernel
theorem dX4_releaseKept_1 : decode cX4_releaseKept 1 = .ok (.getfield 10, 3) := by decide +kernel
theorem dX4_releaseKept_4 : decode cX4_releaseKept 4 = .ok (.aload_n 1, 1) := by decide +kernel
theorem dX4_releaseKept_5 : decode cX4_releaseKept 5 = .ok (.getfield 212, 3) := by decide +kernel
theorem dX4_releaseKept_8 : decode cX4_releaseKept 8 = .ok (.aload_n 1, 1) := by decide +kernel
theorem dX4_releaseKept_9 : decode cX4_releaseKept 9 = .ok (.getfield 154, 3) := by decide +kernel
theorem dX4_releaseKept_12 : decode cX4_releaseKept 12 = .ok (.invokevirtual 215, 3) := by decide +kernel
theorem dX4_releaseKept_15 : decode cX4_releaseKept 15 = .ok (.aload_n 1, 1) := by decide +kernel
theorem dX4_releaseKept_16 : decode cX4_releaseKept 16 = .ok (.iconst 0, 1) := by decide +kernel
theorem dX4_releaseKept_17 : decode cX4_releaseKept 17 = .ok (.putfield 154, 3) := by decide +kernel
theorem dX4_releaseKept_20 : decode cX4_releaseKept 20 = .ok (.return_, 1) := by decide +kernel
set_option maxRecDepth 20000 in
theorem ggX4_releaseAllKept_X4_releaseKept : GoodIn wsX4_releaseAllKept wsX4_releaseKept := goodIn_r _ [6, 7, 8, 9, 10, 11, 12, 13, 14, 15, 16, 17, 18, 19, 20, 21, 22, 23, 24, 25, 26, 27, 28, 29, 30, 31, 32, 33, 34, 35] (by decide +kernel) (by decide +kernel)
set_option maxRecDepth 20000 in
theorem gX4_releaseAllKept_X4_releaseKept : GoodIn wsX4_releaseAllKept (wsV RX4 218 RX4 yX4_releaseKept wsX4_releaseKept) := goodIn_app (goodIn_of _ (by decide +kernel)) ggX4_releaseAllKept_X4_releaseKept
theorem dX4_releaseAllKept_0 : decode cX4_releaseAllKept 0 = .ok (.iconst 0, 1) := by decide +kernel
theorem dX4_releaseAllKept_1 : decode cX4_releaseAllKept 1 = .ok (.istore_n 1, 1) := by decide +kernel
theorem dX4_releaseAllKept_2 : decode cX4_releaseAllKept 2 = .ok (.iload_n 1, 1) := by decide +kernel
theorem dX4_releaseAllKept_3 : decode cX4_releaseAllKept 3 = .ok (.bipush 16, 2) := by decide +kernel
theorem dX4_releaseAllKept_5 : decode cX4_releaseAllKept 5 = .ok (.if_icmp .ge 19, 3) := by decide +kernel
theorem dX4_releaseAllKept_8 : decode cX4_releaseAllKept 8 = .ok (.aload_n 0, 1) := by decide +kernel
theorem dX4_releaseAllKept_9 : decode cX4_releaseAllKept 9 = .ok (.aload_n 0, 1) := by decide +kernel
theorem dX4_releaseAllKept_10 : decode cX4_releaseAllKept 10 = .ok (.getfield 25, 3) := by decide +kernel
theorem dX4_releaseAllKept_13 : decode cX4_releaseAllKept 13 = .ok (.iload_n 1, 1) := by decide +kernel
theorem dX4_releaseAllKept_14 : decode cX4_releaseAllKept 14 = .ok (.aaload, 1) := by decide +kernel
theorem dX4_releaseAllKept_15 : decode cX4_releaseAllKept 15 = .ok (.invokevirtual 218, 3) := by decide +kernel
theorem dX4_releaseAllKept_18 : decode cX4_releaseAllKept 18 = .ok (.iinc 1 1, 3) := by decide +kernel
theorem dX4_releaseAllKept_21 : decode cX4_releaseAllKept 21 = .ok (.goto (-19), 3) := by decide +kernel
theorem dX4_releaseAllKept_24 : decode cX4_releaseAllKept 24 = .ok (.return_, 1) := by decide +kernel
set_option maxRecDepth 20000 in
theorem ggX4_mapRow_X0_isKeptFor : GoodIn wsX4_mapRow wsX0_isKeptFor := goodIn_r _ [4, 5, 6, 88, 89, 90, 91, 92, 93, 94, 95, 96, 97, 98] (by decide +kernel) (by decide +kernel)
set_option maxRecDepth 20000 in
theorem gX4_mapRow_X0_isKeptFor_n222 : GoodIn wsX4_mapRow (wsX0_isKeptFor) := ggX4_mapRow_X0_isKeptFor
set_option maxRecDepth 20000 in
theorem ggX4_mapRow_X0_mapKept : GoodIn wsX4_mapRow wsX0_mapKept := goodIn_r _ [9, 5, 10, 11, 12, 13, 14, 15, 16, 17, 2, 18, 19, 20, 21, 22, 23, 24, 6, 88, 89, 90, 91, 92, 93, 94, 95, 96, 97, 98] (by decide +kernel) (by decide +kernel)
set_option maxRecDepth 20000 in
theorem gX4_mapRow_X0_mapKept_n225 : GoodIn wsX4_mapRow (wsX0_mapKept) := ggX4_mapRow_X0_mapKept
set_option maxRecDepth 20000 in
theorem ggX4_mapRow_X4_mapFound : GoodIn wsX4_mapRow wsX4_mapFound := goodIn_r _ [29, 30, 31, 11, 12, 13, 32, 33, 34, 28, 35, 36, 2, 37, 38, 19, 39, 40, 41, 42, 43, 44, 45, 46, 47, 48, 49, 50, 51, 52, 53, 54, 55, 56, 57, 58, 59, 60, 61, 62, 63, 64, 65, 66, 67, 68, 69, 70, 71, 72, 73, 74, 75, 76, 77, 78, 79, 80, 16, 17, 18, 20, 81, 82, 83, 84, 85, 86, 87, 22, 23, 24, 6, 14, 5, 99, 100, 101, 102, 103, 88, 89, 90, 91, 92, 93, 94, 95, 96, 97, 98, 104, 105] (by decide +kernel) (by decide +kernel)
set_option maxRecDepth 20000 in
theorem gX4_mapRow_X4_mapFound : GoodIn wsX4_mapRow (wsV RX4 228 RX4 yX4_mapFound wsX4_mapFound) := goodIn_app (goodIn_of _ (by decide +kernel)) ggX4_mapRow_X4_mapFound
theorem dX4_mapRow_0 : decode cX4_mapRow 0 = .ok (.iload_n 2, 1) := by decide +kernel
theorem dX4_mapRow_1 : decode cX4_mapRow 1 = .ok (.istore 4, 2) := by decide +kernel
theorem dX4_mapRow_3 : decode cX4_mapRow 3 = .ok (.iconst 0, 1) := by decide +kernel
theorem dX4_mapRow_4 : decode cX4_mapRow 4 = .ok (.istore 5, 2) := by decide +kernel
theorem dX4_mapRow_6 : decode cX4_mapRow 6 = .ok (.iload 5, 2) := by decide +kernel
theorem dX4_mapRow_8 : decode cX4_mapRow 8 = .ok (.bipush 64, 2) := by decide +kernel
theorem dX4_mapRow_10 : decode cX4_mapRow 10 = .ok (.if_icmp .ge 58, 3) := by decide +kernel
theorem dX4_mapRow_13 : decode cX4_mapRow 13 = .ok (.iload 4, 2) := by decide +kernel
theorem dX4_mapRow_15 : decode cX4_mapRow 15 = .ok (.iload_n 3, 1) := by decide +kernel
theorem dX4_mapRow_16 : decode cX4_mapRow 16 = .ok (.if_icmp .ge 52, 3) := by decide +kernel
theorem dX4_mapRow_19 : decode cX4_mapRow 19 = .ok (.aload_n 1, 1) := by decide +kernel
theorem dX4_mapRow_20 : decode cX4_mapRow 20 = .ok (.iload 4, 2) := by decide +kernel
theorem dX4_mapRow_22 : decode cX4_mapRow 22 = .ok (.invokevirtual 222, 3) := by decide +kernel
theorem dX4_mapRow_25 : decode cX4_mapRow 25 = .ok (.ifCond .eq 21, 3) := by decide +kernel
theorem dX4_mapRow_28 : decode cX4_mapRow 28 = .ok (.iload 4, 2) := by decide +kernel
theorem dX4_mapRow_30 : decode cX4_mapRow 30 = .ok (.aload_n 1, 1) := by decide +kernel
theorem dX4_mapRow_31 : decode cX4_mapRow 31 = .ok (.iload 4, 2) := by decide +kernel
theorem dX4_mapRow_33 : decode cX4_mapRow 33 = .ok (.iload_n 3, 1) := by decide +kernel
theorem dX4_mapRow_34 : decode cX4_mapRow 34 = .ok (.iload 4, 2) := by decide +kernel
theorem dX4_mapRow_36 : decode cX4_mapRow 36 = .ok (.isub, 1) := by decide +kernel
theorem dX4_mapRow_37 : decode cX4_mapRow 37 = .ok (.invokevirtual 225, 3) := by decide +kernel
theorem dX4_mapRow_40 : decode cX4_mapRow 40 = .ok (.iadd, 1) := by decide +kernel
theorem dX4_mapRow_41 : decode cX4_mapRow 41 = .ok (.istore 4, 2) := by decide +kernel
theorem dX4_mapRow_43 : decode cX4_mapRow 43 = .ok (.goto 19, 3) := by decide +kernel
theorem dX4_mapRow_46 : decode cX4_mapRow 46 = .ok (.iload 4, 2) := by decide +kernel
theorem dX4_mapRow_48 : decode cX4_mapRow 48 = .ok (.aload_n 0, 1) := by decide +kernel
theorem dX4_mapRow_49 : decode cX4_mapRow 49 = .ok (.aload_n 1, 1) := by decide +kernel
theorem dX4_mapRow_50 : decode cX4_mapRow 50 = .ok (.iload 4, 2) := by decide +kernel
theorem dX4_mapRow_52 : decode cX4_mapRow 52 = .ok (.iload_n 3, 1) := by decide +kernel
theorem dX4_mapRow_53 : decode cX4_mapRow 53 = .ok (.iload 4, 2) := by decide +kernel
theorem dX4_mapRow_55 : decode cX4_mapRow 55 = .ok (.isub, 1) := by decide +kernel
theorem dX4_mapRow_56 : decode cX4_mapRow 56 = .ok (.invokevirtual 228, 3) := by decide +kernel
theorem dX4_mapRow_59 : decode cX4_mapRow 59 = .ok (.iadd, 1) := by decide +kernel
theorem dX4_mapRow_60 : decode cX4_mapRow 60 = .ok (.istore 4, 2) := by decide +kernel
theorem dX4_mapRow_62 : decode cX4_mapRow 62 = .ok (.iinc 5 1, 3) := by decide +kernel
theorem dX4_mapRow_65 : decode cX4_mapRow 65 = .ok (.goto (-59), 3) := by decide +kernel
theorem dX4_mapRow_68 : decode cX4_mapRow 68 = .ok (.iload 4, 2) := by decide +kernel
theorem dX4_mapRow_70 : decode cX4_mapRow 70 = .ok (.iload_n 2, 1) := by decide +kernel
theorem dX4_mapRow_71 : decode cX4_mapRow 71 = .ok (.isub, 1) := by decide +kernel
theorem dX4_mapRow_72 : decode cX4_mapRow 72 = .ok (.ireturn, 1) := by decide +kernel
set_option maxRecDepth 20000 in
theorem ggX4_mapFound_X4_goalFor : GoodIn wsX4_mapFound wsX4_goalFor := goodIn_r _ [10, 11, 12, 13, 14, 15, 80, 81, 82, 83, 84, 85, 86, 87, 88, 89, 90] (by decide +kernel) (by decide +kernel)
set_option maxRecDepth 20000 in
theorem gX4_mapFound_X4_goalFor : GoodIn wsX4_mapFound (wsV RX4 231 RX4 yX4_goalFor wsX4_goalFor) := goodIn_app (goodIn_of _ (by decide +kernel)) ggX4_mapFound_X4_goalFor
set_option maxRecDepth 20000 in
theorem ggX4_mapFound_X4_lengthFor : GoodIn wsX4_mapFound wsX4_lengthFor := goodIn_r _ [19, 20, 21, 22, 9, 23, 24, 25, 26, 27, 1, 28, 29, 30, 31, 32, 75, 76, 77, 78, 79, 91, 92, 80, 81, 82, 83, 84, 85, 86, 87, 88, 89, 90] (by decide +kernel) (by decide +kernel)
set_option maxRecDepth 20000 in
theorem gX4_mapFound_X4_lengthFor : GoodIn wsX4_mapFound (wsV RX4 234 RX4 yX4_lengthFor wsX4_lengthFor) := goodIn_app (goodIn_of _ (by decide +kernel)) ggX4_mapFound_X4_lengthFor
set_option maxRecDepth 20000 in
theorem ggX4_mapFound_X2_find : GoodIn wsX4_mapFound wsX2_find := goodIn_r _ [36, 37, 38, 39, 34, 40, 41, 42, 43, 44, 45, 46, 47, 48, 49, 91, 92] (by decide +kernel) (by decide +kernel)
set_option maxRecDepth 20000 in
theorem gX4_mapFound_X2_find_n237 : GoodIn wsX4_mapFound (wsX2_find) := ggX4_mapFound_X2_find
set_option maxRecDepth 20000 in
theorem ggX4_mapFound_X2_take : GoodIn wsX4_mapFound wsX2_take := goodIn_r _ [52, 53, 54, 55, 34, 56, 41, 57, 91, 92] (by decide +kernel) (by decide +kernel)
set_option maxRecDepth 20000 in
theorem gX4_mapFound_X2_take_n245 : GoodIn wsX4_mapFound (wsX2_take) := ggX4_mapFound_X2_take
set_option maxRecDepth 20000 in
theorem ggX4_mapFound_X0_map : GoodIn wsX4_mapFound wsX0_map := goodIn_r _ [60, 15, 61, 80, 81, 82, 83, 84, 85, 86, 87, 88, 89, 90] (by decide +kernel) (by decide +kernel)
set_option maxRecDepth 20000 in
theorem gX4_mapFound_X0_map_n248 : GoodIn wsX4_mapFound (wsX0_map) := ggX4_mapFound_X0_map
set_option maxRecDepth 20000 in
theorem ggX4_mapFound_X4_releaseKept : GoodIn wsX4_mapFound wsX4_releaseKept := goodIn_r _ [65, 1, 66, 34, 67, 68, 53, 54, 55, 56, 41, 57, 75, 76, 77, 78, 79, 80, 81, 82, 83, 84, 85, 86, 87, 88, 89, 90, 91, 92] (by decide +kernel) (by decide +kernel)
set_option maxRecDepth 20000 in
theorem gX4_mapFound_X4_releaseKept : GoodIn wsX4_mapFound (wsV RX4 218 RX4 yX4_releaseKept wsX4_releaseKept) := goodIn_app (goodIn_of _ (by decide +kernel)) ggX4_mapFound_X4_releaseKept
set_option maxRecDepth 20000 in
theorem ggX4_mapFound_X0_keep : GoodIn wsX4_mapFound wsX0_keep := goodIn_r _ [71, 72, 73, 74, 80, 81, 82, 83, 84, 85, 86, 87, 88, 89, 90] (by decide +kernel) (by decide +kernel)
set_option maxRecDepth 20000 in
theorem gX4_mapFound_X0_keep_n251 : GoodIn wsX4_mapFound (wsX0_keep) := ggX4_mapFound_X0_keep
theorem dX4_mapFound_0 : decode cX4_mapFound 0 = .ok (.aload_n 0, 1) := by decide +kernel
theorem dX4_mapFound_1 : decode cX4_mapFound 1 = .ok (.aload_n 1, 1) := by decide +kernel
theorem dX4_mapFound_2 : decode cX4_mapFound 2 = .ok (.iload_n 2, 1) := by decide +kernel
theorem dX4_mapFound_3 : decode cX4_mapFound 3 = .ok (.invokevirtual 231, 3) := by decide +kernel
theorem dX4_mapFound_6 : decode cX4_mapFound 6 = .ok (.istore 4, 2) := by decide +kernel
theorem dX4_mapFound_8 : decode cX4_mapFound 8 = .ok (.aload_n 0, 1) := by decide +kernel
theorem dX4_mapFound_9 : decode cX4_mapFound 9 = .ok (.iload_n 3, 1) := by decide +kernel
theorem dX4_mapFound_10 : decode cX4_mapFound 10 = .ok (.invokevirtual 234, 3) := by decide +kernel
theorem dX4_mapFound_13 : decode cX4_mapFound 13 = .ok (.istore 5, 2) := by decide +kernel
theorem dX4_mapFound_15 : decode cX4_mapFound 15 = .ok (.aload_n 0, 1) := by decide +kernel
theorem dX4_mapFound_16 : decode cX4_mapFound 16 = .ok (.getfield 10, 3) := by decide +kernel
theorem dX4_mapFound_19 : decode cX4_mapFound 19 = .ok (.iload 4, 2) := by decide +kernel
theorem dX4_mapFound_21 : decode cX4_mapFound 21 = .ok (.iload 5, 2) := by decide +kernel
theorem dX4_mapFound_23 : decode cX4_mapFound 23 = .ok (.invokevirtual 237, 3) := by decide +kernel
theorem dX4_mapFound_26 : decode cX4_mapFound 26 = .ok (.istore 6, 2) := by decide +kernel
theorem dX4_mapFound_28 : decode cX4_mapFound 28 = .ok (.iload 6, 2) := by decide +kernel
theorem dX4_mapFound_30 : decode cX4_mapFound 30 = .ok (.iconst (-1), 1) := by decide +kernel
theorem dX4_mapFound_31 : decode cX4_mapFound 31 = .ok (.if_icmp .ne 31, 3) := by decide +kernel
theorem dX4_mapFound_34 : decode cX4_mapFound 34 = .ok (.iload 5, 2) := by decide +kernel
theorem dX4_mapFound_36 : decode cX4_mapFound 36 = .ok (.iconst 1, 1) := by decide +kernel
theorem dX4_mapFound_37 : decode cX4_mapFound 37 = .ok (.if_icmp .le 25, 3) := by decide +kernel
theorem dX4_mapFound_40 : decode cX4_mapFound 40 = .ok (.iload 5, 2) := by decide +kernel
theorem dX4_mapFound_42 : decode cX4_mapFound 42 = .ok (.iconst 2, 1) := by decide +kernel
theorem dX4_mapFound_43 : decode cX4_mapFound 43 = .ok (.idiv, 1) := by decide +kernel
theorem dX4_mapFound_44 : decode cX4_mapFound 44 = .ok (.istore 5, 2) := by decide +kernel
theorem dX4_mapFound_46 : decode cX4_mapFound 46 = .ok (.aload_n 0, 1) := by decide +kernel
theorem dX4_mapFound_47 : decode cX4_mapFound 47 = .ok (.getfield 10, 3) := by decide +kernel
theorem dX4_mapFound_50 : decode cX4_mapFound 50 = .ok (.iload 4, 2) := by decide +kernel
theorem dX4_mapFound_52 : decode cX4_mapFound 52 = .ok (.iload 5, 2) := by decide +kernel
theorem dX4_mapFound_54 : decode cX4_mapFound 54 = .ok (.invokevirtual 237, 3) := by decide +kernel
theorem dX4_mapFound_57 : decode cX4_mapFound 57 = .ok (.istore 6, 2) := by decide +kernel
theorem dX4_mapFound_59 : decode cX4_mapFound 59 = .ok (.goto (-31), 3) := by decide +kernel
theorem dX4_mapFound_62 : decode cX4_mapFound 62 = .ok (.iload 6, 2) := by decide +kernel
theorem dX4_mapFound_64 : decode cX4_mapFound 64 = .ok (.iconst (-1), 1) := by decide +kernel
theorem dX4_mapFound_65 : decode cX4_mapFound 65 = .ok (.if_icmp .ne 5, 3) := by decide +kernel
theorem dX4_mapFound_68 : decode cX4_mapFound 68 = .ok (.iconst 0, 1) := by decide +kernel
theorem dX4_mapFound_69 : decode cX4_mapFound 69 = .ok (.ireturn, 1) := by decide +kernel
theorem dX4_mapFound_70 : decode cX4_mapFound 70 = .ok (.iload 5, 2) := by decide +kernel
theorem dX4_mapFound_72 : decode cX4_mapFound 72 = .ok (.iload_n 3, 1) := by decide +kernel
theorem dX4_mapFound_73 : decode cX4_mapFound 73 = .ok (.invokestatic 240, 3) := by decide +kernel
theorem dX4_mapFound_76 : decode cX4_mapFound 76 = .ok (.istore 7, 2) := by decide +kernel
theorem dX4_mapFound_78 : decode cX4_mapFound 78 = .ok (.aload_n 0, 1) := by decide +kernel
theorem dX4_mapFound_79 : decode cX4_mapFound 79 = .ok (.getfield 10, 3) := by decide +kernel
theorem dX4_mapFound_82 : decode cX4_mapFound 82 = .ok (.iload 6, 2) := by decide +kernel
theorem dX4_mapFound_84 : decode cX4_mapFound 84 = .ok (.iload 5, 2) := by decide +kernel
theorem dX4_mapFound_86 : decode cX4_mapFound 86 = .ok (.invokevirtual 245, 3) := by decide +kernel
theorem dX4_mapFound_89 : decode cX4_mapFound 89 = .ok (.aload_n 1, 1) := by decide +kernel
theorem dX4_mapFound_90 : decode cX4_mapFound 90 = .ok (.iload_n 2, 1) := by decide +kernel
theorem dX4_mapFound_91 : decode cX4_mapFound 91 = .ok (.iload 6, 2) := by decide +kernel
theorem dX4_mapFound_93 : decode cX4_mapFound 93 = .ok (.iload 7, 2) := by decide +kernel
theorem dX4_mapFound_95 : decode cX4_mapFound 95 = .ok (.invokevirtual 248, 3) := by decide +kernel
theorem dX4_mapFound_98 : decode cX4_mapFound 98 = .ok (.iload 5, 2) := by decide +kernel
theorem dX4_mapFound_100 : decode cX4_mapFound 100 = .ok (.iload 7, 2) := by decide +kernel
theorem dX4_mapFound_102 : decode cX4_mapFound 102 = .ok (.if_icmp .le 26, 3) := by decide +kernel
theorem dX4_mapFound_105 : decode cX4_mapFound 105 = .ok (.aload_n 0, 1) := by decide +kernel
theorem dX4_mapFound_106 : decode cX4_mapFound 106 = .ok (.aload_n 1, 1) := by decide +kernel
theorem dX4_mapFound_107 : decode cX4_mapFound 107 = .ok (.invokevirtual 218, 3) := by decide +kernel
theorem dX4_mapFound_110 : decode cX4_mapFound 110 = .ok (.aload_n 1, 1) := by decide +kernel
theorem dX4_mapFound_111 : decode cX4_mapFound 111 = .ok (.iload_n 2, 1) := by decide +kernel
theorem dX4_mapFound_112 : decode cX4_mapFound 112 = .ok (.iload 7, 2) := by decide +kernel
theorem dX4_mapFound_114 : decode cX4_mapFound 114 = .ok (.iadd, 1) := by decide +kernel
theorem dX4_mapFound_115 : decode cX4_mapFound 115 = .ok (.iload 6, 2) := by decide +kernel
theorem dX4_mapFound_117 : decode cX4_mapFound 117 = .ok (.iload 7, 2) := by decide +kernel
theorem dX4_mapFound_119 : decode cX4_mapFound 119 = .ok (.iadd, 1) := by decide +kernel
theorem dX4_mapFound_120 : decode cX4_mapFound 120 = .ok (.iload 5, 2) := by decide +kernel
theorem dX4_mapFound_122 : decode cX4_mapFound 122 = .ok (.iload 7, 2) := by decide +kernel
theorem dX4_mapFound_124 : decode cX4_mapFound 124 = .ok (.isub, 1) := by decide +kernel
theorem dX4_mapFound_125 : decode cX4_mapFound 125 = .ok (.invokevirtual 251, 3) := by decide +kernel
theorem dX4_mapFound_128 : decode cX4_mapFound 128 = .ok (.iload 7, 2) := by decide +kernel
theorem dX4_mapFound_130 : decode cX4_mapFound 130 = .ok (.ireturn, 1) := by decide +kernel
set_option maxRecDepth 20000 in
theorem ggX4_goalFor_X0_isMapped : GoodIn wsX4_goalFor wsX0_isMapped := goodIn_r _ [4, 5, 6, 7, 8, 9, 10, 11, 12, 13, 14, 15, 16] (by decide +kernel) (by decide +kernel)
set_option maxRecDepth 20000 in
theorem gX4_goalFor_X0_isMapped_n254 : GoodIn wsX4_goalFor (wsX0_isMapped) := ggX4_goalFor_X0_isMapped
theorem dX4_goalFor_0 : decode cX4_goalFor 0 = .ok (.aload_n 1, 1) := by decide +kernel
theorem dX4_goalFor_1 : decode cX4_goalFor 1 = .ok (.iload_n 2, 1) := by decide +kernel
theorem dX4_goalFor_2 : decode cX4_goalFor 2 = .ok (.iconst 1, 1) := by decide +kernel
theorem dX4_goalFor_3 : decode cX4_goalFor 3 = .ok (.isub, 1) := by decide +kernel
theorem dX4_goalFor_4 : decode cX4_goalFor 4 = .ok (.invokevirtual 254, 3) := by decide +kernel
theorem dX4_goalFor_7 : decode cX4_goalFor 7 = .ok (.ifCond .eq 23, 3) := by decide +kernel
theorem dX4_goalFor_10 : decode cX4_goalFor 10 = .ok (.aload_n 1, 1) := by decide +kernel
theorem dX4_goalFor_11 : decode cX4_goalFor 11 = .ok (.getfield 174, 3) := by decide +kernel
theorem dX4_goalFor_14 : decode cX4_goalFor 14 = .ok (.iload_n 2, 1) := by decide +kernel
theorem dX4_goalFor_15 : decode cX4_goalFor 15 = .ok (.iconst 1, 1) := by decide +kernel
theorem dX4_goalFor_16 : decode cX4_goalFor 16 = .ok (.isub, 1) := by decide +kernel
theorem dX4_goalFor_17 : decode cX4_goalFor 17 = .ok (.iaload, 1) := by decide +kernel
theorem dX4_goalFor_18 : decode cX4_goalFor 18 = .ok (.iconst 1, 1) := by decide +kernel
theorem dX4_goalFor_19 : decode cX4_goalFor 19 = .ok (.iadd, 1) := by decide +kernel
theorem dX4_goalFor_20 : decode cX4_goalFor 20 = .ok (.istore_n 3, 1) := by decide +kernel
theorem dX4_goalFor_21 : decode cX4_goalFor 21 = .ok (.iload_n 3, 1) := by decide +kernel
theorem dX4_goalFor_22 : decode cX4_goalFor 22 = .ok (.sipush 128, 3) := by decide +kernel
theorem dX4_goalFor_25 : decode cX4_goalFor 25 = .ok (.if_icmp .ge 5, 3) := by decide +kernel
theorem dX4_goalFor_28 : decode cX4_goalFor 28 = .ok (.iload_n 3, 1) := by decide +kernel
theorem dX4_goalFor_29 : decode cX4_goalFor 29 = .ok (.ireturn, 1) := by decide +kernel
theorem dX4_goalFor_30 : decode cX4_goalFor 30 = .ok (.aload_n 1, 1) := by decide +kernel
theorem dX4_goalFor_31 : decode cX4_goalFor 31 = .ok (.getfield 257, 3) := by decide +kernel
theorem dX4_goalFor_34 : decode cX4_goalFor 34 = .ok (.iconst 4, 1) := by decide +kernel
theorem dX4_goalFor_35 : decode cX4_goalFor 35 = .ok (.irem, 1) := by decide +kernel
theorem dX4_goalFor_36 : decode cX4_goalFor 36 = .ok (.bipush 32, 2) := by decide +kernel
theorem dX4_goalFor_38 : decode cX4_goalFor 38 = .ok (.imul, 1) := by decide +kernel
theorem dX4_goalFor_39 : decode cX4_goalFor 39 = .ok (.ireturn, 1) := by decide +kernel
set_option maxRecDepth 20000 in
theorem ggX4_lengthFor_X4_left : GoodIn wsX4_lengthFor wsX4_left := goodIn_r _ [5, 6, 7, 8, 4, 9, 10, 11, 12, 13, 14, 15, 16, 17, 18, 19, 20, 21, 22, 23, 24, 25, 26, 27, 28, 29, 30, 31, 32, 33] (by decide +kernel) (by decide +kernel)
set_option maxRecDepth 20000 in
theorem gX4_lengthFor_X4_left : GoodIn wsX4_lengthFor (wsV RX4 105 RX4 yX4_left wsX4_left) := goodIn_app (goodIn_of _ (by decide +kernel)) ggX4_lengthFor_X4_left
theorem dX4_lengthFor_0 : decode cX4_lengthFor 0 = .ok (.iconst 1, 1) := by decide +kernel
theorem dX4_lengthFor_1 : decode cX4_lengthFor 1 = .ok (.istore_n 2, 1) := by decide +kernel
theorem dX4_lengthFor_2 : decode cX4_lengthFor 2 = .ok (.iload_n 2, 1) := by decide +kernel
theorem dX4_lengthFor_3 : decode cX4_lengthFor 3 = .ok (.iload_n 1, 1) := by decide +kernel
theorem dX4_lengthFor_4 : decode cX4_lengthFor 4 = .ok (.if_icmp .ge 16, 3) := by decide +kernel
theorem dX4_lengthFor_7 : decode cX4_lengthFor 7 = .ok (.iload_n 2, 1) := by decide +kernel
theorem dX4_lengthFor_8 : decode cX4_lengthFor 8 = .ok (.bipush 16, 2) := by decide +kernel
theorem dX4_lengthFor_10 : decode cX4_lengthFor 10 = .ok (.if_icmp .ge 10, 3) := by decide +kernel
theorem dX4_lengthFor_13 : decode cX4_lengthFor 13 = .ok (.iload_n 2, 1) := by decide +kernel
theorem dX4_lengthFor_14 : decode cX4_lengthFor 14 = .ok (.iconst 2, 1) := by decide +kernel
theorem dX4_lengthFor_15 : decode cX4_lengthFor 15 = .ok (.imul, 1) := by decide +kernel
theorem dX4_lengthFor_16 : decode cX4_lengthFor 16 = .ok (.istore_n 2, 1) := by decide +kernel
theorem dX4_lengthFor_17 : decode cX4_lengthFor 17 = .ok (.goto (-15), 3) := by decide +kernel
theorem dX4_lengthFor_20 : decode cX4_lengthFor 20 = .ok (.iload_n 2, 1) := by decide +kernel
theorem dX4_lengthFor_21 : decode cX4_lengthFor 21 = .ok (.iload_n 1, 1) := by decide +kernel
theorem dX4_lengthFor_22 : decode cX4_lengthFor 22 = .ok (.isub, 1) := by decide +kernel
theorem dX4_lengthFor_23 : decode cX4_lengthFor 23 = .ok (.aload_n 0, 1) := by decide +kernel
theorem dX4_lengthFor_24 : decode cX4_lengthFor 24 = .ok (.invokevirtual 105, 3) := by decide +kernel
theorem dX4_lengthFor_27 : decode cX4_lengthFor 27 = .ok (.if_icmp .le 9, 3) := by decide +kernel
theorem dX4_lengthFor_30 : decode cX4_lengthFor 30 = .ok (.iload_n 2, 1) := by decide +kernel
theorem dX4_lengthFor_31 : decode cX4_lengthFor 31 = .ok (.iconst 2, 1) := by decide +kernel
theorem dX4_lengthFor_32 : decode cX4_lengthFor 32 = .ok (.idiv, 1) := by decide +kernel
theorem dX4_lengthFor_33 : decode cX4_lengthFor 33 = .ok (.goto 4, 3) := by decide +kernel
theorem dX4_lengthFor_36 : decode cX4_lengthFor 36 = .ok (.iload_n 2, 1) := by decide +kernel
theorem dX4_lengthFor_37 : decode cX4_lengthFor 37 = .ok (.ireturn, 1) := by decide +kernel
set_option maxRecDepth 20000 in
theorem ggX4_cutTo_X0_dropReserved : GoodIn wsX4_cutTo wsX0_dropReserved := goodIn_r _ [4, 5, 6, 49, 50, 51, 52, 53, 54, 55, 56, 57, 58, 59] (by decide +kernel) (by decide +kernel)
set_option maxRecDepth 20000 in
theorem gX4_cutTo_X0_dropReserved_n260 : GoodIn wsX4_cutTo (wsX0_dropReserved) := ggX4_cutTo_X0_dropReserved
set_option maxRecDepth 20000 in
theorem ggX4_cutTo_X4_releaseKept : GoodIn wsX4_cutTo wsX4_releaseKept := goodIn_r _ [11, 12, 13, 14, 15, 16, 17, 18, 19, 20, 21, 22, 60, 61, 62, 63, 64, 49, 50, 51, 52, 53, 54, 55, 56, 57, 58, 59, 65, 66] (by decide +kernel) (by decide +kernel)
set_option maxRecDepth 20000 in
theorem gX4_cutTo_X4_releaseKept : GoodIn wsX4_cutTo (wsV RX4 218 RX4 yX4_releaseKept wsX4_releaseKept) := goodIn_app (goodIn_of _ (by decide +kernel)) ggX4_cutTo_X4_releaseKept
set_option maxRecDepth 20000 in
theorem ggX4_cutTo_X0_isMapped : GoodIn wsX4_cutTo wsX0_isMapped := goodIn_r _ [25, 5, 49, 50, 51, 52, 53, 54, 55, 56, 57, 58, 59] (by decide +kernel) (by decide +kernel)
set_option maxRecDepth 20000 in
theorem gX4_cutTo_X0_isMapped_n254 : GoodIn wsX4_cutTo (wsX0_isMapped) := ggX4_cutTo_X0_isMapped
set_option maxRecDepth 20000 in
theorem ggX4_cutTo_X4_step : GoodIn wsX4_cutTo wsX4_step := goodIn_r _ [29, 12, 30, 2, 31, 32, 5, 33, 23, 24, 25, 13, 14, 15, 16, 17, 18, 19, 20, 21, 22, 60, 61, 62, 63, 64, 49, 50, 51, 52, 53, 54, 55, 56, 57, 58, 59, 65, 66] (by decide +kernel) (by decide +kernel)
set_option maxRecDepth 20000 in
theorem gX4_cutTo_X4_step : GoodIn wsX4_cutTo (wsV RX4 263 RX4 yX4_step wsX4_step) := goodIn_app (goodIn_of _ (by decide +kernel)) ggX4_cutTo_X4_step
set_option maxRecDepth 20000 in
theorem ggX4_cutTo_X4_crashIsDue : GoodIn wsX4_cutTo wsX4_crashIsDue := goodIn_r _ [37, 38, 60, 61, 62, 63, 64] (by decide +kernel) (by decide +kernel)
set_option maxRecDepth 20000 in
theorem gX4_cutTo_X4_crashIsDue : GoodIn wsX4_cutTo (wsV RX4 267 RX4 yX4_crashIsDue wsX4_crashIsDue) := goodIn_app (goodIn_of _ (by decide +kernel)) ggX4_cutTo_X4_crashIsDue
set_option maxRecDepth 20000 in
theorem ggX4_cutTo_X4_fall : GoodIn wsX4_cutTo wsX4_fall := goodIn_r _ [42, 43, 38, 44, 45, 46, 47, 10, 48, 7, 8, 9, 11, 12, 13, 14, 15, 16, 17, 18, 19, 20, 21, 22, 1, 2, 3, 4, 5, 6, 60, 61, 62, 63, 64, 49, 50, 51, 52, 53, 54, 55, 56, 57, 58, 59, 65, 66] (by decide +kernel) (by decide +kernel)
set_option maxRecDepth 20000 in
theorem gX4_cutTo_X4_fall : GoodIn wsX4_cutTo (wsV RX4 134 RX4 yX4_fall wsX4_fall) := goodIn_app (goodIn_of _ (by decide +kernel)) ggX4_cutTo_X4_fall
theorem dX4_cutTo_0 : decode cX4_cutTo 0 = .ok (.aload_n 1, 1) := by decide +kernel
theorem dX4_cutTo_1 : decode cX4_cutTo 1 = .ok (.iconst 1, 1) := by decide +kernel
theorem dX4_cutTo_2 : decode cX4_cutTo 2 = .ok (.putfield 94, 3) := by decide +kernel
theorem dX4_cutTo_5 : decode cX4_cutTo 5 = .ok (.aload_n 1, 1) := by decide +kernel
theorem dX4_cutTo_6 : decode cX4_cutTo 6 = .ok (.iload_n 2, 1) := by decide +kernel
theorem dX4_cutTo_7 : decode cX4_cutTo 7 = .ok (.putfield 142, 3) := by decide +kernel
theorem dX4_cutTo_10 : decode cX4_cutTo 10 = .ok (.aload_n 1, 1) := by decide +kernel
theorem dX4_cutTo_11 : decode cX4_cutTo 11 = .ok (.iload_n 2, 1) := by decide +kernel
theorem dX4_cutTo_12 : decode cX4_cutTo 12 = .ok (.invokevirtual 260, 3) := by decide +kernel
theorem dX4_cutTo_15 : decode cX4_cutTo 15 = .ok (.aload_n 0, 1) := by decide +kernel
theorem dX4_cutTo_16 : decode cX4_cutTo 16 = .ok (.aload_n 1, 1) := by decide +kernel
theorem dX4_cutTo_17 : decode cX4_cutTo 17 = .ok (.invokevirtual 218, 3) := by decide +kernel
theorem dX4_cutTo_20 : decode cX4_cutTo 20 = .ok (.iconst 0, 1) := by decide +kernel
theorem dX4_cutTo_21 : decode cX4_cutTo 21 = .ok (.istore_n 3, 1) := by decide +kernel
theorem dX4_cutTo_22 : decode cX4_cutTo 22 = .ok (.bipush 63, 2) := by decide +kernel
theorem dX4_cutTo_24 : decode cX4_cutTo 24 = .ok (.istore 4, 2) := by decide +kernel
theorem dX4_cutTo_26 : decode cX4_cutTo 26 = .ok (.iload 4, 2) := by decide +kernel
theorem dX4_cutTo_28 : decode cX4_cutTo 28 = .ok (.iload_n 2, 1) := by decide +kernel
theorem dX4_cutTo_29 : decode cX4_cutTo 29 = .ok (.if_icmp .lt 42, 3) := by decide +kernel
theorem dX4_cutTo_32 : decode cX4_cutTo 32 = .ok (.aload_n 1, 1) := by decide +kernel
theorem dX4_cutTo_33 : decode cX4_cutTo 33 = .ok (.iload 4, 2) := by decide +kernel
theorem dX4_cutTo_35 : decode cX4_cutTo 35 = .ok (.invokevirtual 254, 3) := by decide +kernel
theorem dX4_cutTo_38 : decode cX4_cutTo 38 = .ok (.ifCond .eq 27, 3) := by decide +kernel
theorem dX4_cutTo_41 : decode cX4_cutTo 41 = .ok (.aload_n 0, 1) := by decide +kernel
theorem dX4_cutTo_42 : decode cX4_cutTo 42 = .ok (.aload_n 1, 1) := by decide +kernel
theorem dX4_cutTo_43 : decode cX4_cutTo 43 = .ok (.iload 4, 2) := by decide +kernel
theorem dX4_cutTo_45 : decode cX4_cutTo 45 = .ok (.iload_n 2, 1) := by decide +kernel
theorem dX4_cutTo_46 : decode cX4_cutTo 46 = .ok (.invokevirtual 263, 3) := by decide +kernel
theorem dX4_cutTo_49 : decode cX4_cutTo 49 = .ok (.iinc 3 1, 3) := by decide +kernel
theorem dX4_cutTo_52 : decode cX4_cutTo 52 = .ok (.aload_n 0, 1) := by decide +kernel
theorem dX4_cutTo_53 : decode cX4_cutTo 53 = .ok (.invokevirtual 267, 3) := by decide +kernel
theorem dX4_cutTo_56 : decode cX4_cutTo 56 = .ok (.ifCond .eq 9, 3) := by decide +kernel
theorem dX4_cutTo_59 : decode cX4_cutTo 59 = .ok (.aload_n 0, 1) := by decide +kernel
theorem dX4_cutTo_60 : decode cX4_cutTo 60 = .ok (.invokevirtual 134, 3) := by decide +kernel
theorem dX4_cutTo_63 : decode cX4_cutTo 63 = .ok (.iconst (-1), 1) := by decide +kernel
theorem dX4_cutTo_64 : decode cX4_cutTo 64 = .ok (.ireturn, 1) := by decide +kernel
theorem dX4_cutTo_65 : decode cX4_cutTo 65 = .ok (.iinc 4 (-1), 3) := by decide +kernel
theorem dX4_cutTo_68 : decode cX4_cutTo 68 = .ok (.goto (-42), 3) := by decide +kernel
theorem dX4_cutTo_71 : decode cX4_cutTo 71 = .ok (.aload_n 1, 1) := by decide +kernel
theorem dX4_cutTo_72 : decode cX4_cutTo 72 = .ok (.aload_n 1, 1) := by decide +kernel
theorem dX4_cutTo_73 : decode cX4_cutTo 73 = .ok (.getfield 84, 3) := by decide +kernel
theorem dX4_cutTo_76 : decode cX4_cutTo 76 = .ok (.putfield 94, 3) := by decide +kernel
theorem dX4_cutTo_79 : decode cX4_cutTo 79 = .ok (.iload_n 3, 1) := by decide +kernel
theorem dX4_cutTo_80 : decode cX4_cutTo 80 = .ok (.ireturn, 1) := by decide +kernel
set_option maxRecDepth 20000 in
theorem ggX4_step_X0_joinsAhead : GoodIn wsX4_step wsX0_joinsAhead := goodIn_r _ [5, 6, 7, 8, 9, 3, 10, 26, 27, 28, 29, 30, 31, 32, 33, 34, 35, 36] (by decide +kernel) (by decide +kernel)
set_option maxRecDepth 20000 in
theorem gX4_step_X0_joinsAhead_n270 : GoodIn wsX4_step (wsX0_joinsAhead) := ggX4_step_X0_joinsAhead
set_option maxRecDepth 20000 in
theorem ggX4_step_X2_release : GoodIn wsX4_step wsX2_release := goodIn_r _ [14, 15, 16, 17, 12, 18, 19, 20, 37, 38] (by decide +kernel) (by decide +kernel)
set_option maxRecDepth 20000 in
theorem gX4_step_X2_release_n215 : GoodIn wsX4_step (wsX2_release) := ggX4_step_X2_release
theorem dX4_step_0 : decode cX4_step 0 = .ok (.iload_n 2, 1) := by decide +kernel
theorem dX4_step_1 : decode cX4_step 1 = .ok (.istore 4, 2) := by decide +kernel
theorem dX4_step_3 : decode cX4_step 3 = .ok (.iload 4, 2) := by decide +kernel
theorem dX4_step_5 : decode cX4_step 5 = .ok (.iload_n 3, 1) := by decide +kernel
theorem dX4_step_6 : decode cX4_step 6 = .ok (.if_icmp .le 26, 3) := by decide +kernel
theorem dX4_step_9 : decode cX4_step 9 = .ok (.iload_n 2, 1) := by decide +kernel
theorem dX4_step_10 : decode cX4_step 10 = .ok (.iload 4, 2) := by decide +kernel
theorem dX4_step_12 : decode cX4_step 12 = .ok (.isub, 1) := by decide +kernel
theorem dX4_step_13 : decode cX4_step 13 = .ok (.iconst 3, 1) := by decide +kernel
theorem dX4_step_14 : decode cX4_step 14 = .ok (.if_icmp .ge 18, 3) := by decide +kernel
theorem dX4_step_17 : decode cX4_step 17 = .ok (.aload_n 1, 1) := by decide +kernel
theorem dX4_step_18 : decode cX4_step 18 = .ok (.iload 4, 2) := by decide +kernel
theorem dX4_step_20 : decode cX4_step 20 = .ok (.invokevirtual 270, 3) := by decide +kernel
theorem dX4_step_23 : decode cX4_step 23 = .ok (.ifCond .eq 9, 3) := by decide +kernel
theorem dX4_step_26 : decode cX4_step 26 = .ok (.iinc 4 (-1), 3) := by decide +kernel
theorem dX4_step_29 : decode cX4_step 29 = .ok (.goto (-26), 3) := by decide +kernel
theorem dX4_step_32 : decode cX4_step 32 = .ok (.iload 4, 2) := by decide +kernel
theorem dX4_step_34 : decode cX4_step 34 = .ok (.istore 5, 2) := by decide +kernel
theorem dX4_step_36 : decode cX4_step 36 = .ok (.iload 5, 2) := by decide +kernel
theorem dX4_step_38 : decode cX4_step 38 = .ok (.iload_n 2, 1) := by decide +kernel
theorem dX4_step_39 : decode cX4_step 39 = .ok (.if_icmp .gt 32, 3) := by decide +kernel
theorem dX4_step_42 : decode cX4_step 42 = .ok (.aload_n 0, 1) := by decide +kernel
theorem dX4_step_43 : decode cX4_step 43 = .ok (.getfield 10, 3) := by decide +kernel
theorem dX4_step_46 : decode cX4_step 46 = .ok (.aload_n 1, 1) := by decide +kernel
theorem dX4_step_47 : decode cX4_step 47 = .ok (.getfield 174, 3) := by decide +kernel
theorem dX4_step_50 : decode cX4_step 50 = .ok (.iload 5, 2) := by decide +kernel
theorem dX4_step_52 : decode cX4_step 52 = .ok (.iaload, 1) := by decide +kernel
theorem dX4_step_53 : decode cX4_step 53 = .ok (.iconst 1, 1) := by decide +kernel
theorem dX4_step_54 : decode cX4_step 54 = .ok (.invokevirtual 215, 3) := by decide +kernel
theorem dX4_step_57 : decode cX4_step 57 = .ok (.aload_n 1, 1) := by decide +kernel
theorem dX4_step_58 : decode cX4_step 58 = .ok (.getfield 174, 3) := by decide +kernel
theorem dX4_step_61 : decode cX4_step 61 = .ok (.iload 5, 2) := by decide +kernel
theorem dX4_step_63 : decode cX4_step 63 = .ok (.iconst (-1), 1) := by decide +kernel
theorem dX4_step_64 : decode cX4_step 64 = .ok (.iastore, 1) := by decide +kernel
theorem dX4_step_65 : decode cX4_step 65 = .ok (.iinc 5 1, 3) := by decide +kernel
theorem dX4_step_68 : decode cX4_step 68 = .ok (.goto (-32), 3) := by decide +kernel
theorem dX4_step_71 : decode cX4_step 71 = .ok (.return_, 1) := by decide +kernel
theorem dX4_crashIsDue_0 : decode cX4_crashIsDue 0 = .ok (.aload_n 0, 1) := by decide +kernel
theorem dX4_crashIsDue_1 : decode cX4_crashIsDue 1 = .ok (.getfield 29, 3) := by decide +kernel
theorem dX4_crashIsDue_4 : decode cX4_crashIsDue 4 = .ok (.iconst (-1), 1) := by decide +kernel
theorem dX4_crashIsDue_5 : decode cX4_crashIsDue 5 = .ok (.if_icmp .ne 5, 3) := by decide +kernel
theorem dX4_crashIsDue_8 : decode cX4_crashIsDue 8 = .ok (.iconst 0, 1) := by decide +kernel
theorem dX4_crashIsDue_9 : decode cX4_crashIsDue 9 = .ok (.ireturn, 1) := by decide +kernel
theorem dX4_crashIsDue_10 : decode cX4_crashIsDue 10 = .ok (.aload_n 0, 1) := by decide +kernel
theorem dX4_crashIsDue_11 : decode cX4_crashIsDue 11 = .ok (.dup, 1) := by decide +kernel
theorem dX4_crashIsDue_12 : decode cX4_crashIsDue 12 = .ok (.getfield 29, 3) := by decide +kernel
theorem dX4_crashIsDue_15 : decode cX4_crashIsDue 15 = .ok (.iconst 1, 1) := by decide +kernel
theorem dX4_crashIsDue_16 : decode cX4_crashIsDue 16 = .ok (.isub, 1) := by decide +kernel
theorem dX4_crashIsDue_17 : decode cX4_crashIsDue 17 = .ok (.putfield 29, 3) := by decide +kernel
theorem dX4_crashIsDue_20 : decode cX4_crashIsDue 20 = .ok (.aload_n 0, 1) := by decide +kernel
theorem dX4_crashIsDue_21 : decode cX4_crashIsDue 21 = .ok (.getfield 29, 3) := by decide +kernel
theorem dX4_crashIsDue_24 : decode cX4_crashIsDue 24 = .ok (.ifCond .ne 7, 3) := by decide +kernel
theorem dX4_crashIsDue_27 : decode cX4_crashIsDue 27 = .ok (.iconst 1, 1) := by decide +kernel
theorem dX4_crashIsDue_28 : decode cX4_crashIsDue 28 = .ok (.goto 4, 3) := by decide +kernel
theorem dX4_crashIsDue_31 : decode cX4_crashIsDue 31 = .ok (.iconst 0, 1) := by decide +kernel
theorem dX4_crashIsDue_32 : decode cX4_crashIsDue 32 = .ok (.ireturn, 1) := by decide +kernel
set_option maxRecDepth 20000 in
theorem ggX4_fall_X4_releaseAllKept : GoodIn wsX4_fall wsX4_releaseAllKept := goodIn_r _ [8, 3, 9, 10, 11, 7, 12, 13, 14, 15, 16, 17, 18, 19, 20, 21, 22, 23, 30, 31, 32, 33, 34, 35, 36, 37, 38, 39, 40, 41, 42, 43, 44, 45, 46, 47] (by decide +kernel) (by decide +kernel)
set_option maxRecDepth 20000 in
theorem gX4_fall_X4_releaseAllKept : GoodIn wsX4_fall (wsV RX4 113 RX4 yX4_releaseAllKept wsX4_releaseAllKept) := goodIn_app (goodIn_of _ (by decide +kernel)) ggX4_fall_X4_releaseAllKept
set_option maxRecDepth 20000 in
theorem ggX4_fall_X0_dropReserved : GoodIn wsX4_fall wsX0_dropReserved := goodIn_r _ [27, 28, 29, 35, 36, 37, 38, 39, 40, 41, 42, 43, 44, 45] (by decide +kernel) (by decide +kernel)
set_option maxRecDepth 20000 in
theorem gX4_fall_X0_dropReserved_n260 : GoodIn wsX4_fall (wsX0_dropReserved) := ggX4_fall_X0_dropReserved
theorem dX4_fall_0 : decode cX4_fall 0 = .ok (.aload_n 0, 1) := by decide +kernel
theorem dX4_fall_1 : decode cX4_fall 1 = .ok (.iconst 1, 1) := by decide +kernel
theorem dX4_fall_2 : decode cX4_fall 2 = .ok (.putfield 33, 3) := by decide +kernel
theorem dX4_fall_5 : decode cX4_fall 5 = .ok (.aload_n 0, 1) := by decide +kernel
theorem dX4_fall_6 : decode cX4_fall 6 = .ok (.iconst (-1), 1) := by decide +kernel
theorem dX4_fall_7 : decode cX4_fall 7 = .ok (.putfield 29, 3) := by decide +kernel
theorem dX4_fall_10 : decode cX4_fall 10 = .ok (.aload_n 0, 1) := by decide +kernel
theorem dX4_fall_11 : decode cX4_fall 11 = .ok (.invokevirtual 113, 3) := by decide +kernel
theorem dX4_fall_14 : decode cX4_fall 14 = .ok (.iconst 0, 1) := by decide +kernel
theorem dX4_fall_15 : decode cX4_fall 15 = .ok (.istore_n 1, 1) := by decide +kernel
theorem dX4_fall_16 : decode cX4_fall 16 = .ok (.iload_n 1, 1) := by decide +kernel
theorem dX4_fall_17 : decode cX4_fall 17 = .ok (.bipush 16, 2) := by decide +kernel
theorem dX4_fall_19 : decode cX4_fall 19 = .ok (.if_icmp .ge 29, 3) := by decide +kernel
theorem dX4_fall_22 : decode cX4_fall 22 = .ok (.aload_n 0, 1) := by decide +kernel
theorem dX4_fall_23 : decode cX4_fall 23 = .ok (.getfield 25, 3) := by decide +kernel
theorem dX4_fall_26 : decode cX4_fall 26 = .ok (.iload_n 1, 1) := by decide +kernel
theorem dX4_fall_27 : decode cX4_fall 27 = .ok (.aaload, 1) := by decide +kernel
theorem dX4_fall_28 : decode cX4_fall 28 = .ok (.iconst 0, 1) := by decide +kernel
theorem dX4_fall_29 : decode cX4_fall 29 = .ok (.invokevirtual 260, 3) := by decide +kernel
theorem dX4_fall_32 : decode cX4_fall 32 = .ok (.aload_n 0, 1) := by decide +kernel
theorem dX4_fall_33 : decode cX4_fall 33 = .ok (.getfield 25, 3) := by decide +kernel
theorem dX4_fall_36 : decode cX4_fall 36 = .ok (.iload_n 1, 1) := by decide +kernel
theorem dX4_fall_37 : decode cX4_fall 37 = .ok (.aaload, 1) := by decide +kernel
theorem dX4_fall_38 : decode cX4_fall 38 = .ok (.iconst 0, 1) := by decide +kernel
theorem dX4_fall_39 : decode cX4_fall 39 = .ok (.putfield 75, 3) := by decide +kernel
theorem dX4_fall_42 : decode cX4_fall 42 = .ok (.iinc 1 1, 3) := by decide +kernel
theorem dX4_fall_45 : decode cX4_fall 45 = .ok (.goto (-29), 3) := by decide +kernel
theorem dX4_fall_48 : decode cX4_fall 48 = .ok (.return_, 1) := by decide +kernel
set_option maxRecDepth 20000 in
theorem ggX4_erase_X4_cutTo : GoodIn wsX4_erase wsX4_cutTo := goodIn_r _ [5, 6, 7, 8, 9, 10, 11, 12, 13, 14, 4, 15, 16, 17, 18, 19, 20, 21, 22, 23, 24, 25, 26, 27, 28, 29, 30, 31, 32, 33, 34, 35, 36, 37, 38, 39, 40, 41, 42, 43, 44, 45, 46, 47, 48, 49, 50, 51, 52, 53, 54, 55, 56, 57, 58, 59, 60, 61, 62, 63, 64, 65, 66, 67, 68, 69, 70] (by decide +kernel) (by decide +kernel)
set_option maxRecDepth 20000 in
theorem gX4_erase_X4_cutTo : GoodIn wsX4_erase (wsV RX4 130 RX4 yX4_cutTo wsX4_cutTo) := goodIn_app (goodIn_of _ (by decide +kernel)) ggX4_erase_X4_cutTo
theorem dX4_erase_0 : decode cX4_erase 0 = .ok (.aload_n 0, 1) := by decide +kernel
theorem dX4_erase_1 : decode cX4_erase 1 = .ok (.aload_n 1, 1) := by decide +kernel
theorem dX4_erase_2 : decode cX4_erase 2 = .ok (.iconst 0, 1) := by decide +kernel
theorem dX4_erase_3 : decode cX4_erase 3 = .ok (.invokevirtual 130, 3) := by decide +kernel
theorem dX4_erase_6 : decode cX4_erase 6 = .ok (.iconst (-1), 1) := by decide +kernel
theorem dX4_erase_7 : decode cX4_erase 7 = .ok (.if_icmp .ne 5, 3) := by decide +kernel
theorem dX4_erase_10 : decode cX4_erase 10 = .ok (.iconst 0, 1) := by decide +kernel
theorem dX4_erase_11 : decode cX4_erase 11 = .ok (.ireturn, 1) := by decide +kernel
theorem dX4_erase_12 : decode cX4_erase 12 = .ok (.aload_n 1, 1) := by decide +kernel
theorem dX4_erase_13 : decode cX4_erase 13 = .ok (.iconst 0, 1) := by decide +kernel
theorem dX4_erase_14 : decode cX4_erase 14 = .ok (.putfield 145, 3) := by decide +kernel
theorem dX4_erase_17 : decode cX4_erase 17 = .ok (.aload_n 1, 1) := by decide +kernel
theorem dX4_erase_18 : decode cX4_erase 18 = .ok (.iconst 0, 1) := by decide +kernel
theorem dX4_erase_19 : decode cX4_erase 19 = .ok (.putfield 94, 3) := by decide +kernel
theorem dX4_erase_22 : decode cX4_erase 22 = .ok (.aload_n 1, 1) := by decide +kernel
theorem dX4_erase_23 : decode cX4_erase 23 = .ok (.iconst 0, 1) := by decide +kernel
theorem dX4_erase_24 : decode cX4_erase 24 = .ok (.putfield 84, 3) := by decide +kernel
theorem dX4_erase_27 : decode cX4_erase 27 = .ok (.iconst 1, 1) := by decide +kernel
theorem dX4_erase_28 : decode cX4_erase 28 = .ok (.ireturn, 1) := by decide +kernel
theorem dX4_hashOf_0 : decode cX4_hashOf 0 = .ok (.iconst 5, 1) := by decide +kernel
theorem dX4_hashOf_1 : decode cX4_hashOf 1 = .ok (.iload_n 0, 1) := by decide +kernel
theorem dX4_hashOf_2 : decode cX4_hashOf 2 = .ok (.imul, 1) := by decide +kernel
theorem dX4_hashOf_3 : decode cX4_hashOf 3 = .ok (.bipush 16, 2) := by decide +kernel
theorem dX4_hashOf_5 : decode cX4_hashOf 5 = .ok (.irem, 1) := by decide +kernel
