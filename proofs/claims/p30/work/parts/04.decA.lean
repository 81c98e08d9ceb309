set_option maxRecDepth 20000 in
theorem ggX0_init_J7_fill_53178 : GoodIn wsX0_init wsJ7_fill_53178 := goodIn_r _ [19] (by decide +kernel) (by decide +kernel)
set_option maxRecDepth 20000 in
theorem gX0_init_J7_fill_53178 : GoodIn wsX0_init (va_wsS RX0 47 yJ7_fill_53178 wsJ7_fill_53178) := goodIn_app (goodIn_of _ (by decide +kernel)) ggX0_init_J7_fill_53178
theorem dX0_init_0 : decode cX0_init 0 = .ok (.aload_n 0, 1) := by decide +kernel
theorem dX0_init_1 : decode cX0_init 1 = .ok (.invokespecial 3, 3) := by decide +kernel
theorem dX0_init_4 : decode cX0_init 4 = .ok (.aload_n 0, 1) := by decide +kernel
theorem dX0_init_5 : decode cX0_init 5 = .ok (.bipush 64, 2) := by decide +kernel
theorem dX0_init_7 : decode cX0_init 7 = .ok (.newarray .int, 2) := by decide +kernel
theorem dX0_init_9 : decode cX0_init 9 = .ok (.putfield 9, 3) := by decide +kernel
theorem dX0_init_12 : decode cX0_init 12 = .ok (.aload_n 0, 1) := by decide +kernel
theorem dX0_init_13 : decode cX0_init 13 = .ok (.iconst 0, 1) := by decide +kernel
theorem dX0_init_14 : decode cX0_init 14 = .ok (.putfield 15, 3) := by decide +kernel
theorem dX0_init_17 : decode cX0_init 17 = .ok (.aload_n 0, 1) := by decide +kernel
theorem dX0_init_18 : decode cX0_init 18 = .ok (.iconst 0, 1) := by decide +kernel
theorem dX0_init_19 : decode cX0_init 19 = .ok (.putfield 19, 3) := by decide +kernel
theorem dX0_init_22 : decode cX0_init 22 = .ok (.aload_n 0, 1) := by decide +kernel
theorem dX0_init_23 : decode cX0_init 23 = .ok (.iconst 0, 1) := by decide +kernel
theorem dX0_init_24 : decode cX0_init 24 = .ok (.putfield 23, 3) := by decide +kernel
theorem dX0_init_27 : decode cX0_init 27 = .ok (.aload_n 0, 1) := by decide +kernel
theorem dX0_init_28 : decode cX0_init 28 = .ok (.iconst 0, 1) := by decide +kernel
theorem dX0_init_29 : decode cX0_init 29 = .ok (.putfield 26, 3) := by decide +kernel
theorem dX0_init_32 : decode cX0_init 32 = .ok (.aload_n 0, 1) := by decide +kernel
theorem dX0_init_33 : decode cX0_init 33 = .ok (.iconst 0, 1) := by decide +kernel
theorem dX0_init_34 : decode cX0_init 34 = .ok (.putfield 29, 3) := by decide +kernel
theorem dX0_init_37 : decode cX0_init 37 = .ok (.aload_n 0, 1) := by decide +kernel
theorem dX0_init_38 : decode cX0_init 38 = .ok (.iconst 0, 1) := by decide +kernel
theorem dX0_init_39 : decode cX0_init 39 = .ok (.putfield 32, 3) := by decide +kernel
theorem dX0_init_42 : decode cX0_init 42 = .ok (.aload_n 0, 1) := by decide +kernel
theorem dX0_init_43 : decode cX0_init 43 = .ok (.iconst 0, 1) := by decide +kernel
theorem dX0_init_44 : decode cX0_init 44 = .ok (.putfield 35, 3) := by decide +kernel
theorem dX0_init_47 : decode cX0_init 47 = .ok (.aload_n 0, 1) := by decide +kernel
theorem dX0_init_48 : decode cX0_init 48 = .ok (.iconst 0, 1) := by decide +kernel
theorem dX0_init_49 : decode cX0_init 49 = .ok (.putfield 38, 3) := by decide +kernel
theorem dX0_init_52 : decode cX0_init 52 = .ok (.aload_n 0, 1) := by decide +kernel
theorem dX0_init_53 : decode cX0_init 53 = .ok (.iconst 0, 1) := by decide +kernel
theorem dX0_init_54 : decode cX0_init 54 = .ok (.putfield 41, 3) := by decide +kernel
theorem dX0_init_57 : decode cX0_init 57 = .ok (.aload_n 0, 1) := by decide +kernel
theorem dX0_init_58 : decode cX0_init 58 = .ok (.iload_n 1, 1) := by decide +kernel
theorem dX0_init_59 : decode cX0_init 59 = .ok (.putfield 44, 3) := by decide +kernel
theorem dX0_init_62 : decode cX0_init 62 = .ok (.aload_n 0, 1) := by decide +kernel
theorem dX0_init_63 : decode cX0_init 63 = .ok (.getfield 9, 3) := by decide +kernel
theorem dX0_init_66 : decode cX0_init 66 = .ok (.iconst (-1), 1) := by decide +kernel
theorem dX0_init_67 : decode cX0_init 67 = .ok (.invokestatic 47, 3) := by decide +kernel
theorem dX0_init_70 : decode cX0_init 70 = .ok (.return_, 1) := by decide +kernel
theorem dX0_begin_0 : decode cX0_begin 0 = .ok (.aload_n 0, 1) := by decide +kernel
theorem dX0_begin_1 : decode cX0_begin 1 = .ok (.iconst 1, 1) := by decide +kernel
theorem dX0_begin_2 : decode cX0_begin 2 = .ok (.putfield 15, 3) := by decide +kernel
theorem dX0_begin_5 : decode cX0_begin 5 = .ok (.return_, 1) := by decide +kernel
theorem dX0_isMapped_0 : decode cX0_isMapped 0 = .ok (.iload_n 1, 1) := by decide +kernel
theorem dX0_isMapped_1 : decode cX0_isMapped 1 = .ok (.ifCond .lt 22, 3) := by decide +kernel
theorem dX0_isMapped_4 : decode cX0_isMapped 4 = .ok (.iload_n 1, 1) := by decide +kernel
theorem dX0_isMapped_5 : decode cX0_isMapped 5 = .ok (.bipush 64, 2) := by decide +kernel
theorem dX0_isMapped_7 : decode cX0_isMapped 7 = .ok (.if_icmp .ge 16, 3) := by decide +kernel
theorem dX0_isMapped_10 : decode cX0_isMapped 10 = .ok (.aload_n 0, 1) := by decide +kernel
theorem dX0_isMapped_11 : decode cX0_isMapped 11 = .ok (.getfield 9, 3) := by decide +kernel
theorem dX0_isMapped_14 : decode cX0_isMapped 14 = .ok (.iload_n 1, 1) := by decide +kernel
theorem dX0_isMapped_15 : decode cX0_isMapped 15 = .ok (.iaload, 1) := by decide +kernel
theorem dX0_isMapped_16 : decode cX0_isMapped 16 = .ok (.ifCond .lt 7, 3) := by decide +kernel
theorem dX0_isMapped_19 : decode cX0_isMapped 19 = .ok (.iconst 1, 1) := by decide +kernel
theorem dX0_isMapped_20 : decode cX0_isMapped 20 = .ok (.goto 4, 3) := by decide +kernel
theorem dX0_isMapped_23 : decode cX0_isMapped 23 = .ok (.iconst 0, 1) := by decide +kernel
theorem dX0_isMapped_24 : decode cX0_isMapped 24 = .ok (.ireturn, 1) := by decide +kernel
theorem dX0_isReserved_0 : decode cX0_isReserved 0 = .ok (.iload_n 1, 1) := by decide +kernel
theorem dX0_isReserved_1 : decode cX0_isReserved 1 = .ok (.ifCond .lt 24, 3) := by decide +kernel
theorem dX0_isReserved_4 : decode cX0_isReserved 4 = .ok (.iload_n 1, 1) := by decide +kernel
theorem dX0_isReserved_5 : decode cX0_isReserved 5 = .ok (.bipush 64, 2) := by decide +kernel
theorem dX0_isReserved_7 : decode cX0_isReserved 7 = .ok (.if_icmp .ge 18, 3) := by decide +kernel
theorem dX0_isReserved_10 : decode cX0_isReserved 10 = .ok (.aload_n 0, 1) := by decide +kernel
theorem dX0_isReserved_11 : decode cX0_isReserved 11 = .ok (.getfield 9, 3) := by decide +kernel
theorem dX0_isReserved_14 : decode cX0_isReserved 14 = .ok (.iload_n 1, 1) := by decide +kernel
theorem dX0_isReserved_15 : decode cX0_isReserved 15 = .ok (.iaload, 1) := by decide +kernel
theorem dX0_isReserved_16 : decode cX0_isReserved 16 = .ok (.bipush (-2), 2) := by decide +kernel
theorem dX0_isReserved_18 : decode cX0_isReserved 18 = .ok (.if_icmp .ne 7, 3) := by decide +kernel
theorem dX0_isReserved_21 : decode cX0_isReserved 21 = .ok (.iconst 1, 1) := by decide +kernel
theorem dX0_isReserved_22 : decode cX0_isReserved 22 = .ok (.goto 4, 3) := by decide +kernel
theorem dX0_isReserved_25 : decode cX0_isReserved 25 = .ok (.iconst 0, 1) := by decide +kernel
theorem dX0_isReserved_26 : decode cX0_isReserved 26 = .ok (.ireturn, 1) := by decide +kernel
set_option maxRecDepth 20000 in
theorem ggX0_endOfReserved_X0_isReserved : GoodIn wsX0_endOfReserved wsX0_isReserved := goodIn_r _ [5, 6, 7, 8, 9, 10, 11, 12, 13, 14, 15, 16, 17] (by decide +kernel) (by decide +kernel)
set_option maxRecDepth 20000 in
theorem gX0_endOfReserved_X0_isReserved : GoodIn wsX0_endOfReserved (wsV RX0 53 RX0 yX0_isReserved wsX0_isReserved) := goodIn_app (goodIn_of _ (by decide +kernel)) ggX0_endOfReserved_X0_isReserved
theorem dX0_endOfReserved_0 : decode cX0_endOfReserved 0 = .ok (.iload_n 1, 1) := by decide +kernel
theorem dX0_endOfReserved_1 : decode cX0_endOfReserved 1 = .ok (.istore_n 2, 1) := by decide +kernel
theorem dX0_endOfReserved_2 : decode cX0_endOfReserved 2 = .ok (.iload_n 2, 1) := by decide +kernel
theorem dX0_endOfReserved_3 : decode cX0_endOfReserved 3 = .ok (.bipush 64, 2) := by decide +kernel
theorem dX0_endOfReserved_5 : decode cX0_endOfReserved 5 = .ok (.if_icmp .ge 17, 3) := by decide +kernel
theorem dX0_endOfReserved_8 : decode cX0_endOfReserved 8 = .ok (.aload_n 0, 1) := by decide +kernel
theorem dX0_endOfReserved_9 : decode cX0_endOfReserved 9 = .ok (.iload_n 2, 1) := by decide +kernel
theorem dX0_endOfReserved_10 : decode cX0_endOfReserved 10 = .ok (.invokevirtual 53, 3) := by decide +kernel
theorem dX0_endOfReserved_13 : decode cX0_endOfReserved 13 = .ok (.ifCond .eq 9, 3) := by decide +kernel
theorem dX0_endOfReserved_16 : decode cX0_endOfReserved 16 = .ok (.iinc 2 1, 3) := by decide +kernel
theorem dX0_endOfReserved_19 : decode cX0_endOfReserved 19 = .ok (.goto (-17), 3) := by decide +kernel
theorem dX0_endOfReserved_22 : decode cX0_endOfReserved 22 = .ok (.iload_n 2, 1) := by decide +kernel
theorem dX0_endOfReserved_23 : decode cX0_endOfReserved 23 = .ok (.ireturn, 1) := by decide +kernel
theorem dX0_emptyPlaces_0 : decode cX0_emptyPlaces 0 = .ok (.iconst 0, 1) := by decide +kernel
theorem dX0_emptyPlaces_1 : decode cX0_emptyPlaces 1 = .ok (.istore_n 3, 1) := by decide +kernel
theorem dX0_emptyPlaces_2 : decode cX0_emptyPlaces 2 = .ok (.iload_n 1, 1) := by decide +kernel
theorem dX0_emptyPlaces_3 : decode cX0_emptyPlaces 3 = .ok (.istore 4, 2) := by decide +kernel
theorem dX0_emptyPlaces_5 : decode cX0_emptyPlaces 5 = .ok (.iload 4, 2) := by decide +kernel
theorem dX0_emptyPlaces_7 : decode cX0_emptyPlaces 7 = .ok (.iload_n 2, 1) := by decide +kernel
theorem dX0_emptyPlaces_8 : decode cX0_emptyPlaces 8 = .ok (.if_icmp .ge 35, 3) := by decide +kernel
theorem dX0_emptyPlaces_11 : decode cX0_emptyPlaces 11 = .ok (.iload 4, 2) := by decide +kernel
theorem dX0_emptyPlaces_13 : decode cX0_emptyPlaces 13 = .ok (.bipush 64, 2) := by decide +kernel
theorem dX0_emptyPlaces_15 : decode cX0_emptyPlaces 15 = .ok (.if_icmp .ge 28, 3) := by decide +kernel
theorem dX0_emptyPlaces_18 : decode cX0_emptyPlaces 18 = .ok (.iload_n 3, 1) := by decide +kernel
theorem dX0_emptyPlaces_19 : decode cX0_emptyPlaces 19 = .ok (.aload_n 0, 1) := by decide +kernel
theorem dX0_emptyPlaces_20 : decode cX0_emptyPlaces 20 = .ok (.getfield 9, 3) := by decide +kernel
theorem dX0_emptyPlaces_23 : decode cX0_emptyPlaces 23 = .ok (.iload 4, 2) := by decide +kernel
theorem dX0_emptyPlaces_25 : decode cX0_emptyPlaces 25 = .ok (.iaload, 1) := by decide +kernel
theorem dX0_emptyPlaces_26 : decode cX0_emptyPlaces 26 = .ok (.iconst (-1), 1) := by decide +kernel
theorem dX0_emptyPlaces_27 : decode cX0_emptyPlaces 27 = .ok (.if_icmp .ne 7, 3) := by decide +kernel
theorem dX0_emptyPlaces_30 : decode cX0_emptyPlaces 30 = .ok (.iconst 1, 1) := by decide +kernel
theorem dX0_emptyPlaces_31 : decode cX0_emptyPlaces 31 = .ok (.goto 4, 3) := by decide +kernel
theorem dX0_emptyPlaces_34 : decode cX0_emptyPlaces 34 = .ok (.iconst 0, 1) := by decide +kernel
theorem dX0_emptyPlaces_35 : decode cX0_emptyPlaces 35 = .ok (.iadd, 1) := by decide +kernel
theorem dX0_emptyPlaces_36 : decode cX0_emptyPlaces 36 = .ok (.istore_n 3, 1) := by decide +kernel
theorem dX0_emptyPlaces_37 : decode cX0_emptyPlaces 37 = .ok (.iinc 4 1, 3) := by decide +kernel
theorem dX0_emptyPlaces_40 : decode cX0_emptyPlaces 40 = .ok (.goto (-35), 3) := by decide +kernel
theorem dX0_emptyPlaces_43 : decode cX0_emptyPlaces 43 = .ok (.iload_n 3, 1) := by decide +kernel
theorem dX0_emptyPlaces_44 : decode cX0_emptyPlaces 44 = .ok (.ireturn, 1) := by decide +kernel
theorem dX0_reserve_0 : decode cX0_reserve 0 = .ok (.iload_n 1, 1) := by decide +kernel
theorem dX0_reserve_1 : decode cX0_reserve 1 = .ok (.istore_n 3, 1) := by decide +kernel
theorem dX0_reserve_2 : decode cX0_reserve 2 = .ok (.iload_n 3, 1) := by decide +kernel
theorem dX0_reserve_3 : decode cX0_reserve 3 = .ok (.iload_n 2, 1) := by decide +kernel
theorem dX0_reserve_4 : decode cX0_reserve 4 = .ok (.if_icmp .ge 43, 3) := by decide +kernel
theorem dX0_reserve_7 : decode cX0_reserve 7 = .ok (.iload_n 3, 1) := by decide +kernel
theorem dX0_reserve_8 : decode cX0_reserve 8 = .ok (.bipush 64, 2) := by decide +kernel
theorem dX0_reserve_10 : decode cX0_reserve 10 = .ok (.if_icmp .ge 37, 3) := by decide +kernel
theorem dX0_reserve_13 : decode cX0_reserve 13 = .ok (.aload_n 0, 1) := by decide +kernel
theorem dX0_reserve_14 : decode cX0_reserve 14 = .ok (.getfield 9, 3) := by decide +kernel
theorem dX0_reserve_17 : decode cX0_reserve 17 = .ok (.iload_n 3, 1) := by decide +kernel
theorem dX0_reserve_18 : decode cX0_reserve 18 = .ok (.iaload, 1) := by decide +kernel
theorem dX0_reserve_19 : decode cX0_reserve 19 = .ok (.iconst (-1), 1) := by decide +kernel
theorem dX0_reserve_20 : decode cX0_reserve 20 = .ok (.if_icmp .ne 21, 3) := by decide +kernel
theorem dX0_reserve_23 : decode cX0_reserve 23 = .ok (.aload_n 0, 1) := by decide +kernel
theorem dX0_reserve_24 : decode cX0_reserve 24 = .ok (.getfield 9, 3) := by decide +kernel
theorem dX0_reserve_27 : decode cX0_reserve 27 = .ok (.iload_n 3, 1) := by decide +kernel
theorem dX0_reserve_28 : decode cX0_reserve 28 = .ok (.bipush (-2), 2) := by decide +kernel
theorem dX0_reserve_30 : decode cX0_reserve 30 = .ok (.iastore, 1) := by decide +kernel
theorem dX0_reserve_31 : decode cX0_reserve 31 = .ok (.aload_n 0, 1) := by decide +kernel
theorem dX0_reserve_32 : decode cX0_reserve 32 = .ok (.dup, 1) := by decide +kernel
theorem dX0_reserve_33 : decode cX0_reserve 33 = .ok (.getfield 23, 3) := by decide +kernel
theorem dX0_reserve_36 : decode cX0_reserve 36 = .ok (.iconst 1, 1) := by decide +kernel
theorem dX0_reserve_37 : decode cX0_reserve 37 = .ok (.iadd, 1) := by decide +kernel
theorem dX0_reserve_38 : decode cX0_reserve 38 = .ok (.putfield 23, 3) := by decide +kernel
theorem dX0_reserve_41 : decode cX0_reserve 41 = .ok (.iinc 3 1, 3) := by decide +kernel
theorem dX0_reserve_44 : decode cX0_reserve 44 = .ok (.goto (-42), 3) := by decide +kernel
theorem dX0_reserve_47 : decode cX0_reserve 47 = .ok (.return_, 1) := by decide +kernel
theorem dX0_dropReserved_0 : decode cX0_dropReserved 0 = .ok (.iload_n 1, 1) := by decide +kernel
theorem dX0_dropReserved_1 : decode cX0_dropReserved 1 = .ok (.istore_n 2, 1) := by decide +kernel
theorem dX0_dropReserved_2 : decode cX0_dropReserved 2 = .ok (.iload_n 2, 1) := by decide +kernel
theorem dX0_dropReserved_3 : decode cX0_dropReserved 3 = .ok (.bipush 64, 2) := by decide +kernel
theorem dX0_dropReserved_5 : decode cX0_dropReserved 5 = .ok (.if_icmp .ge 37, 3) := by decide +kernel
theorem dX0_dropReserved_8 : decode cX0_dropReserved 8 = .ok (.aload_n 0, 1) := by decide +kernel
theorem dX0_dropReserved_9 : decode cX0_dropReserved 9 = .ok (.getfield 9, 3) := by decide +kernel
theorem dX0_dropReserved_12 : decode cX0_dropReserved 12 = .ok (.iload_n 2, 1) := by decide +kernel
theorem dX0_dropReserved_13 : decode cX0_dropReserved 13 = .ok (.iaload, 1) := by decide +kernel
theorem dX0_dropReserved_14 : decode cX0_dropReserved 14 = .ok (.bipush (-2), 2) := by decide +kernel
theorem dX0_dropReserved_16 : decode cX0_dropReserved 16 = .ok (.if_icmp .ne 20, 3) := by decide +kernel
theorem dX0_dropReserved_19 : decode cX0_dropReserved 19 = .ok (.aload_n 0, 1) := by decide +kernel
theorem dX0_dropReserved_20 : decode cX0_dropReserved 20 = .ok (.getfield 9, 3) := by decide +kernel
theorem dX0_dropReserved_23 : decode cX0_dropReserved 23 = .ok (.iload_n 2, 1) := by decide +kernel
theorem dX0_dropReserved_24 : decode cX0_dropReserved 24 = .ok (.iconst (-1), 1) := by decide +kernel
theorem dX0_dropReserved_25 : decode cX0_dropReserved 25 = .ok (.iastore, 1) := by decide +kernel
theorem dX0_dropReserved_26 : decode cX0_dropReserved 26 = .ok (.aload_n 0, 1) := by decide +kernel
theorem dX0_dropReserved_27 : decode cX0_dropReserved 27 = .ok (.dup, 1) := by decide +kernel
theorem dX0_dropReserved_28 : decode cX0_dropReserved 28 = .ok (.getfield 23, 3) := by decide +kernel
theorem dX0_dropReserved_31 : decode cX0_dropReserved 31 = .ok (.iconst 1, 1) := by decide +kernel
theorem dX0_dropReserved_32 : decode cX0_dropReserved 32 = .ok (.isub, 1) := by decide +kernel
theorem dX0_dropReserved_33 : decode cX0_dropReserved 33 = .ok (.putfield 23, 3) := by decide +kernel
theorem dX0_dropReserved_36 : decode cX0_dropReserved 36 = .ok (.iinc 2 1, 3) := by decide +kernel
theorem dX0_dropReserved_39 : decode cX0_dropReserved 39 = .ok (.goto (-37), 3) := by decide +kernel
theorem dX0_dropReserved_42 : decode cX0_dropReserved 42 = .ok (.return_, 1) := by decide +kernel
theorem dX0_map_0 : decode cX0_map 0 = .ok (.iconst 0, 1) := by decide +kernel
theorem dX0_map_1 : decode cX0_map 1 = .ok (.istore 4, 2) := by decide +kernel
theorem dX0_map_3 : decode cX0_map 3 = .ok (.iload 4, 2) := by decide +kernel
theorem dX0_map_5 : decode cX0_map 5 = .ok (.iload_n 3, 1) := by decide +kernel
theorem dX0_map_6 : decode cX0_map 6 = .ok (.if_icmp .ge 41, 3) := by decide +kernel
theorem dX0_map_9 : decode cX0_map 9 = .ok (.iload_n 1, 1) := by decide +kernel
theorem dX0_map_10 : decode cX0_map 10 = .ok (.iload 4, 2) := by decide +kernel
theorem dX0_map_12 : decode cX0_map 12 = .ok (.iadd, 1) := by decide +kernel
theorem dX0_map_13 : decode cX0_map 13 = .ok (.bipush 64, 2) := by decide +kernel
theorem dX0_map_15 : decode cX0_map 15 = .ok (.if_icmp .ge 32, 3) := by decide +kernel
theorem dX0_map_18 : decode cX0_map 18 = .ok (.aload_n 0, 1) := by decide +kernel
theorem dX0_map_19 : decode cX0_map 19 = .ok (.getfield 9, 3) := by decide +kernel
theorem dX0_map_22 : decode cX0_map 22 = .ok (.iload_n 1, 1) := by decide +kernel
theorem dX0_map_23 : decode cX0_map 23 = .ok (.iload 4, 2) := by decide +kernel
theorem dX0_map_25 : decode cX0_map 25 = .ok (.iadd, 1) := by decide +kernel
theorem dX0_map_26 : decode cX0_map 26 = .ok (.iload_n 2, 1) := by decide +kernel
theorem dX0_map_27 : decode cX0_map 27 = .ok (.iload 4, 2) := by decide +kernel
theorem dX0_map_29 : decode cX0_map 29 = .ok (.iadd, 1) := by decide +kernel
theorem dX0_map_30 : decode cX0_map 30 = .ok (.iastore, 1) := by decide +kernel
theorem dX0_map_31 : decode cX0_map 31 = .ok (.aload_n 0, 1) := by decide +kernel
theorem dX0_map_32 : decode cX0_map 32 = .ok (.dup, 1) := by decide +kernel
theorem dX0_map_33 : decode cX0_map 33 = .ok (.getfield 23, 3) := by decide +kernel
theorem dX0_map_36 : decode cX0_map 36 = .ok (.iconst 1, 1) := by decide +kernel
theorem dX0_map_37 : decode cX0_map 37 = .ok (.isub, 1) := by decide +kernel
theorem dX0_map_38 : decode cX0_map 38 = .ok (.putfield 23, 3) := by decide +kernel
theorem dX0_map_41 : decode cX0_map 41 = .ok (.iinc 4 1, 3) := by decide +kernel
theorem dX0_map_44 : decode cX0_map 44 = .ok (.goto (-41), 3) := by decide +kernel
theorem dX0_map_47 : decode cX0_map 47 = .ok (.return_, 1) := by decide +kernel
theorem dX0_keep_0 : decode cX0_keep 0 = .ok (.aload_n 0, 1) := by decide +kernel
theorem dX0_keep_1 : decode cX0_keep 1 = .ok (.iload_n 1, 1) := by decide +kernel
theorem dX0_keep_2 : decode cX0_keep 2 = .ok (.putfield 26, 3) := by decide +kernel
theorem dX0_keep_5 : decode cX0_keep 5 = .ok (.aload_n 0, 1) := by decide +kernel
theorem dX0_keep_6 : decode cX0_keep 6 = .ok (.iload_n 2, 1) := by decide +kernel
theorem dX0_keep_7 : decode cX0_keep 7 = .ok (.putfield 29, 3) := by decide +kernel
theorem dX0_keep_10 : decode cX0_keep 10 = .ok (.aload_n 0, 1) := by decide +kernel
theorem dX0_keep_11 : decode cX0_keep 11 = .ok (.iload_n 3, 1) := by decide +kernel
theorem dX0_keep_12 : decode cX0_keep 12 = .ok (.putfield 32, 3) := by decide +kernel
theorem dX0_keep_15 : decode cX0_keep 15 = .ok (.return_, 1) := by decide +kernel
theorem dX0_isKeptFor_0 : decode cX0_isKeptFor 0 = .ok (.aload_n 0, 1) := by decide +kernel
theorem dX0_isKeptFor_1 : decode cX0_isKeptFor 1 = .ok (.getfield 32, 3) := by decide +kernel
theorem dX0_isKeptFor_4 : decode cX0_isKeptFor 4 = .ok (.ifCond .le 15, 3) := by decide +kernel
theorem dX0_isKeptFor_7 : decode cX0_isKeptFor 7 = .ok (.aload_n 0, 1) := by decide +kernel
theorem dX0_isKeptFor_8 : decode cX0_isKeptFor 8 = .ok (.getfield 26, 3) := by decide +kernel
theorem dX0_isKeptFor_11 : decode cX0_isKeptFor 11 = .ok (.iload_n 1, 1) := by decide +kernel
theorem dX0_isKeptFor_12 : decode cX0_isKeptFor 12 = .ok (.if_icmp .ne 7, 3) := by decide +kernel
theorem dX0_isKeptFor_15 : decode cX0_isKeptFor 15 = .ok (.iconst 1, 1) := by decide +kernel
theorem dX0_isKeptFor_16 : decode cX0_isKeptFor 16 = .ok (.goto 4, 3) := by decide +kernel
theorem dX0_isKeptFor_19 : decode cX0_isKeptFor 19 = .ok (.iconst 0, 1) := by decide +kernel
theorem dX0_isKeptFor_20 : decode cX0_isKeptFor 20 = .ok (.ireturn, 1) := by decide +kernel
set_option maxRecDepth 20000 in
theorem ggX0_mapKept_X0_map : GoodIn wsX0_mapKept wsX0_map := goodIn_r _ [11, 12, 13, 19, 20, 21, 22, 23, 24, 25, 26, 27, 28, 29] (by decide +kernel) (by decide +kernel)
set_option maxRecDepth 20000 in
theorem gX0_mapKept_X0_map : GoodIn wsX0_mapKept (wsV RX0 63 RX0 yX0_map wsX0_map) := goodIn_app (goodIn_of _ (by decide +kernel)) ggX0_mapKept_X0_map
set_option maxRecDepth 20000 in
theorem ggX0_mapKept_X0_keep : GoodIn wsX0_mapKept wsX0_keep := goodIn_r _ [17, 18, 6, 1, 19, 20, 21, 22, 23, 24, 25, 26, 27, 28, 29] (by decide +kernel) (by decide +kernel)
set_option maxRecDepth 20000 in
theorem gX0_mapKept_X0_keep : GoodIn wsX0_mapKept (wsV RX0 67 RX0 yX0_keep wsX0_keep) := goodIn_app (goodIn_of _ (by decide +kernel)) ggX0_mapKept_X0_keep
theorem dX0_mapKept_0 : decode cX0_mapKept 0 = .ok (.aload_n 0, 1) := by decide +kernel
theorem dX0_mapKept_1 : decode cX0_mapKept 1 = .ok (.getfield 32, 3) := by decide +kernel
theorem dX0_mapKept_4 : decode cX0_mapKept 4 = .ok (.iload_n 2, 1) := by decide +kernel
theorem dX0_mapKept_5 : decode cX0_mapKept 5 = .ok (.invokestatic 57, 3) := by decide +kernel
theorem dX0_mapKept_8 : decode cX0_mapKept 8 = .ok (.istore_n 3, 1) := by decide +kernel
theorem dX0_mapKept_9 : decode cX0_mapKept 9 = .ok (.aload_n 0, 1) := by decide +kernel
theorem dX0_mapKept_10 : decode cX0_mapKept 10 = .ok (.iload_n 1, 1) := by decide +kernel
theorem dX0_mapKept_11 : decode cX0_mapKept 11 = .ok (.aload_n 0, 1) := by decide +kernel
theorem dX0_mapKept_12 : decode cX0_mapKept 12 = .ok (.getfield 29, 3) := by decide +kernel
theorem dX0_mapKept_15 : decode cX0_mapKept 15 = .ok (.iload_n 3, 1) := by decide +kernel
theorem dX0_mapKept_16 : decode cX0_mapKept 16 = .ok (.invokevirtual 63, 3) := by decide +kernel
theorem dX0_mapKept_19 : decode cX0_mapKept 19 = .ok (.aload_n 0, 1) := by decide +kernel
theorem dX0_mapKept_20 : decode cX0_mapKept 20 = .ok (.iload_n 1, 1) := by decide +kernel
theorem dX0_mapKept_21 : decode cX0_mapKept 21 = .ok (.iload_n 3, 1) := by decide +kernel
theorem dX0_mapKept_22 : decode cX0_mapKept 22 = .ok (.iadd, 1) := by decide +kernel
theorem dX0_mapKept_23 : decode cX0_mapKept 23 = .ok (.aload_n 0, 1) := by decide +kernel
theorem dX0_mapKept_24 : decode cX0_mapKept 24 = .ok (.getfield 29, 3) := by decide +kernel
theorem dX0_mapKept_27 : decode cX0_mapKept 27 = .ok (.iload_n 3, 1) := by decide +kernel
theorem dX0_mapKept_28 : decode cX0_mapKept 28 = .ok (.iadd, 1) := by decide +kernel
theorem dX0_mapKept_29 : decode cX0_mapKept 29 = .ok (.aload_n 0, 1) := by decide +kernel
theorem dX0_mapKept_30 : decode cX0_mapKept 30 = .ok (.getfield 32, 3) := by decide +kernel
theorem dX0_mapKept_33 : decode cX0_mapKept 33 = .ok (.iload_n 3, 1) := by decide +kernel
theorem dX0_mapKept_34 : decode cX0_mapKept 34 = .ok (.isub, 1) := by decide +kernel
theorem dX0_mapKept_35 : decode cX0_mapKept 35 = .ok (.invokevirtual 67, 3) := by decide +kernel
theorem dX0_mapKept_38 : decode cX0_mapKept 38 = .ok (.iload_n 3, 1) := by decide +kernel
theorem dX0_mapKept_39 : decode cX0_mapKept 39 = .ok (.ireturn, 1) := by decide +kernel
theorem dX0_mappedPlaces_0 : decode cX0_mappedPlaces 0 = .ok (.iconst 0, 1) := by decide +kernel
theorem dX0_mappedPlaces_1 : decode cX0_mappedPlaces 1 = .ok (.istore_n 1, 1) := by decide +kernel
theorem dX0_mappedPlaces_2 : decode cX0_mappedPlaces 2 = .ok (.iconst 0, 1) := by decide +kernel
theorem dX0_mappedPlaces_3 : decode cX0_mappedPlaces 3 = .ok (.istore_n 2, 1) := by decide +kernel
theorem dX0_mappedPlaces_4 : decode cX0_mappedPlaces 4 = .ok (.iload_n 2, 1) := by decide +kernel
theorem dX0_mappedPlaces_5 : decode cX0_mappedPlaces 5 = .ok (.bipush 64, 2) := by decide +kernel
theorem dX0_mappedPlaces_7 : decode cX0_mappedPlaces 7 = .ok (.if_icmp .ge 26, 3) := by decide +kernel
theorem dX0_mappedPlaces_10 : decode cX0_mappedPlaces 10 = .ok (.iload_n 1, 1) := by decide +kernel
theorem dX0_mappedPlaces_11 : decode cX0_mappedPlaces 11 = .ok (.aload_n 0, 1) := by decide +kernel
theorem dX0_mappedPlaces_12 : decode cX0_mappedPlaces 12 = .ok (.getfield 9, 3) := by decide +kernel
theorem dX0_mappedPlaces_15 : decode cX0_mappedPlaces 15 = .ok (.iload_n 2, 1) := by decide +kernel
theorem dX0_mappedPlaces_16 : decode cX0_mappedPlaces 16 = .ok (.iaload, 1) := by decide +kernel
theorem dX0_mappedPlaces_17 : decode cX0_mappedPlaces 17 = .ok (.ifCond .lt 7, 3) := by decide +kernel
theorem dX0_mappedPlaces_20 : decode cX0_mappedPlaces 20 = .ok (.iconst 1, 1) := by decide +kernel
theorem dX0_mappedPlaces_21 : decode cX0_mappedPlaces 21 = .ok (.goto 4, 3) := by decide +kernel
theorem dX0_mappedPlaces_24 : decode cX0_mappedPlaces 24 = .ok (.iconst 0, 1) := by decide +kernel
theorem dX0_mappedPlaces_25 : decode cX0_mappedPlaces 25 = .ok (.iadd, 1) := by decide +kernel
theorem dX0_mappedPlaces_26 : decode cX0_mappedPlaces 26 = .ok (.istore_n 1, 1) := by decide +kernel
theorem dX0_mappedPlaces_27 : decode cX0_mappedPlaces 27 = .ok (.iinc 2 1, 3) := by decide +kernel
theorem dX0_mappedPlaces_30 : decode cX0_mappedPlaces 30 = .ok (.goto (-26), 3) := by decide +kernel
theorem dX0_mappedPlaces_33 : decode cX0_mappedPlaces 33 = .ok (.iload_n 1, 1) := by decide +kernel
theorem dX0_mappedPlaces_34 : decode cX0_mappedPlaces 34 = .ok (.ireturn, 1) := by decide +kernel
set_option maxRecDepth 20000 in
theorem ggX0_joinsAhead_X0_isMapped : GoodIn wsX0_joinsAhead wsX0_isMapped := goodIn_r _ [6, 1, 7, 8, 9, 10, 11, 12, 13, 14, 15, 16, 17] (by decide +kernel) (by decide +kernel)
set_option maxRecDepth 20000 in
theorem gX0_joinsAhead_X0_isMapped : GoodIn wsX0_joinsAhead (wsV RX0 70 RX0 yX0_isMapped wsX0_isMapped) := goodIn_app (goodIn_of _ (by decide +kernel)) ggX0_joinsAhead_X0_isMapped
theorem dX0_joinsAhead_0 : decode cX0_joinsAhead 0 = .ok (.aload_n 0, 1) := by decide +kernel
theorem dX0_joinsAhead_1 : decode cX0_joinsAhead 1 = .ok (.iload_n 1, 1) := by decide +kernel
theorem dX0_joinsAhead_2 : decode cX0_joinsAhead 2 = .ok (.invokevirtual 70, 3) := by decide +kernel
theorem dX0_joinsAhead_5 : decode cX0_joinsAhead 5 = .ok (.ifCond .eq 36, 3) := by decide +kernel
theorem dX0_joinsAhead_8 : decode cX0_joinsAhead 8 = .ok (.aload_n 0, 1) := by decide +kernel
theorem dX0_joinsAhead_9 : decode cX0_joinsAhead 9 = .ok (.iload_n 1, 1) := by decide +kernel
theorem dX0_joinsAhead_10 : decode cX0_joinsAhead 10 = .ok (.iconst 1, 1) := by decide +kernel
theorem dX0_joinsAhead_11 : decode cX0_joinsAhead 11 = .ok (.isub, 1) := by decide +kernel
theorem dX0_joinsAhead_12 : decode cX0_joinsAhead 12 = .ok (.invokevirtual 70, 3) := by decide +kernel
theorem dX0_joinsAhead_15 : decode cX0_joinsAhead 15 = .ok (.ifCond .eq 26, 3) := by decide +kernel
theorem dX0_joinsAhead_18 : decode cX0_joinsAhead 18 = .ok (.aload_n 0, 1) := by decide +kernel
theorem dX0_joinsAhead_19 : decode cX0_joinsAhead 19 = .ok (.getfield 9, 3) := by decide +kernel
theorem dX0_joinsAhead_22 : decode cX0_joinsAhead 22 = .ok (.iload_n 1, 1) := by decide +kernel
theorem dX0_joinsAhead_23 : decode cX0_joinsAhead 23 = .ok (.iaload, 1) := by decide +kernel
theorem dX0_joinsAhead_24 : decode cX0_joinsAhead 24 = .ok (.aload_n 0, 1) := by decide +kernel
theorem dX0_joinsAhead_25 : decode cX0_joinsAhead 25 = .ok (.getfield 9, 3) := by decide +kernel
theorem dX0_joinsAhead_28 : decode cX0_joinsAhead 28 = .ok (.iload_n 1, 1) := by decide +kernel
theorem dX0_joinsAhead_29 : decode cX0_joinsAhead 29 = .ok (.iconst 1, 1) := by decide +kernel
theorem dX0_joinsAhead_30 : decode cX0_joinsAhead 30 = .ok (.isub, 1) := by decide +kernel
theorem dX0_joinsAhead_31 : decode cX0_joinsAhead 31 = .ok (.iaload, 1) := by decide +kernel
theorem dX0_joinsAhead_32 : decode cX0_joinsAhead 32 = .ok (.iconst 1, 1) := by decide +kernel
theorem dX0_joinsAhead_33 : decode cX0_joinsAhead 33 = .ok (.iadd, 1) := by decide +kernel
theorem dX0_joinsAhead_34 : decode cX0_joinsAhead 34 = .ok (.if_icmp .ne 7, 3) := by decide +kernel
theorem dX0_joinsAhead_37 : decode cX0_joinsAhead 37 = .ok (.iconst 1, 1) := by decide +kernel
theorem dX0_joinsAhead_38 : decode cX0_joinsAhead 38 = .ok (.goto 4, 3) := by decide +kernel
theorem dX0_joinsAhead_41 : decode cX0_joinsAhead 41 = .ok (.iconst 0, 1) := by decide +kernel
theorem dX0_joinsAhead_42 : decode cX0_joinsAhead 42 = .ok (.ireturn, 1) := by decide +kernel
set_option maxRecDepth 20000 in
theorem ggX0_beginsExtent_X0_isMapped : GoodIn wsX0_beginsExtent wsX0_isMapped := goodIn_r _ [5, 6, 11, 12, 13, 14, 15, 16, 17, 18, 19, 20, 21] (by decide +kernel) (by decide +kernel)
set_option maxRecDepth 20000 in
theorem gX0_beginsExtent_X0_isMapped : GoodIn wsX0_beginsExtent (wsV RX0 70 RX0 yX0_isMapped wsX0_isMapped) := goodIn_app (goodIn_of _ (by decide +kernel)) ggX0_beginsExtent_X0_isMapped
set_option maxRecDepth 20000 in
theorem ggX0_beginsExtent_X0_joinsAhead : GoodIn wsX0_beginsExtent wsX0_joinsAhead := goodIn_r _ [10, 6, 1, 2, 3, 4, 5, 11, 12, 13, 14, 15, 16, 17, 18, 19, 20, 21] (by decide +kernel) (by decide +kernel)
set_option maxRecDepth 20000 in
theorem gX0_beginsExtent_X0_joinsAhead : GoodIn wsX0_beginsExtent (wsV RX0 73 RX0 yX0_joinsAhead wsX0_joinsAhead) := goodIn_app (goodIn_of _ (by decide +kernel)) ggX0_beginsExtent_X0_joinsAhead
theorem dX0_beginsExtent_0 : decode cX0_beginsExtent 0 = .ok (.aload_n 0, 1) := by decide +kernel
theorem dX0_beginsExtent_1 : decode cX0_beginsExtent 1 = .ok (.iload_n 1, 1) := by decide +kernel
theorem dX0_beginsExtent_2 : decode cX0_beginsExtent 2 = .ok (.invokevirtual 70, 3) := by decide +kernel
theorem dX0_beginsExtent_5 : decode cX0_beginsExtent 5 = .ok (.ifCond .eq 15, 3) := by decide +kernel
theorem dX0_beginsExtent_8 : decode cX0_beginsExtent 8 = .ok (.aload_n 0, 1) := by decide +kernel
theorem dX0_beginsExtent_9 : decode cX0_beginsExtent 9 = .ok (.iload_n 1, 1) := by decide +kernel
theorem dX0_beginsExtent_10 : decode cX0_beginsExtent 10 = .ok (.invokevirtual 73, 3) := by decide +kernel
theorem dX0_beginsExtent_13 : decode cX0_beginsExtent 13 = .ok (.ifCond .ne 7, 3) := by decide +kernel
theorem dX0_beginsExtent_16 : decode cX0_beginsExtent 16 = .ok (.iconst 1, 1) := by decide +kernel
theorem dX0_beginsExtent_17 : decode cX0_beginsExtent 17 = .ok (.goto 4, 3) := by decide +kernel
theorem dX0_beginsExtent_20 : decode cX0_beginsExtent 20 = .ok (.iconst 0, 1) := by decide +kernel
theorem dX0_beginsExtent_21 : decode cX0_beginsExtent 21 = .ok (.ireturn, 1) := by decide +kernel
set_option maxRecDepth 20000 in
theorem ggX0_countExtents_X0_beginsExtent : GoodIn wsX0_countExtents wsX0_beginsExtent := goodIn_r _ [5, 6, 7, 8, 4, 9, 10, 11, 12, 13, 14, 15, 16, 17, 18, 19, 20, 21, 22, 23, 24, 25] (by decide +kernel) (by decide +kernel)
set_option maxRecDepth 20000 in
theorem gX0_countExtents_X0_beginsExtent : GoodIn wsX0_countExtents (wsV RX0 76 RX0 yX0_beginsExtent wsX0_beginsExtent) := goodIn_app (goodIn_of _ (by decide +kernel)) ggX0_countExtents_X0_beginsExtent
theorem dX0_countExtents_0 : decode cX0_countExtents 0 = .ok (.iconst 0, 1) := by decide +kernel
theorem dX0_countExtents_1 : decode cX0_countExtents 1 = .ok (.istore_n 1, 1) := by decide +kernel
theorem dX0_countExtents_2 : decode cX0_countExtents 2 = .ok (.iconst 0, 1) := by decide +kernel
theorem dX0_countExtents_3 : decode cX0_countExtents 3 = .ok (.istore_n 2, 1) := by decide +kernel
theorem dX0_countExtents_4 : decode cX0_countExtents 4 = .ok (.iload_n 2, 1) := by decide +kernel
theorem dX0_countExtents_5 : decode cX0_countExtents 5 = .ok (.bipush 64, 2) := by decide +kernel
theorem dX0_countExtents_7 : decode cX0_countExtents 7 = .ok (.if_icmp .ge 25, 3) := by decide +kernel
theorem dX0_countExtents_10 : decode cX0_countExtents 10 = .ok (.iload_n 1, 1) := by decide +kernel
theorem dX0_countExtents_11 : decode cX0_countExtents 11 = .ok (.aload_n 0, 1) := by decide +kernel
theorem dX0_countExtents_12 : decode cX0_countExtents 12 = .ok (.iload_n 2, 1) := by decide +kernel
theorem dX0_countExtents_13 : decode cX0_countExtents 13 = .ok (.invokevirtual 76, 3) := by decide +kernel
theorem dX0_countExtents_16 : decode cX0_countExtents 16 = .ok (.ifCond .eq 7, 3) := by decide +kernel
theorem dX0_countExtents_19 : decode cX0_countExtents 19 = .ok (.iconst 1, 1) := by decide +kernel
theorem dX0_countExtents_20 : decode cX0_countExtents 20 = .ok (.goto 4, 3) := by decide +kernel
theorem dX0_countExtents_23 : decode cX0_countExtents 23 = .ok (.iconst 0, 1) := by decide +kernel
theorem dX0_countExtents_24 : decode cX0_countExtents 24 = .ok (.iadd, 1) := by decide +kernel
theorem dX0_countExtents_25 : decode cX0_countExtents 25 = .ok (.istore_n 1, 1) := by decide +kernel
theorem dX0_countExtents_26 : decode cX0_countExtents 26 = .ok (.iinc 2 1, 3) := by decide +kernel
theorem dX0_countExtents_29 : decode cX0_countExtents 29 = .ok (.goto (-25), 3) := by decide +kernel
theorem dX0_countExtents_32 : decode cX0_countExtents 32 = .ok (.iload_n 1, 1) := by decide +kernel
theorem dX0_countExtents_33 : decode cX0_countExtents 33 = .ok (.ireturn, 1) := by decide +kernel
set_option maxRecDepth 20000 in
theorem ggX0_beginOfExtent_X0_beginsExtent : GoodIn wsX0_beginOfExtent wsX0_beginsExtent := goodIn_r _ [5, 6, 7, 8, 4, 9, 10, 11, 12, 13, 14, 15, 16, 17, 18, 19, 20, 21, 22, 23, 24, 25] (by decide +kernel) (by decide +kernel)
set_option maxRecDepth 20000 in
theorem gX0_beginOfExtent_X0_beginsExtent : GoodIn wsX0_beginOfExtent (wsV RX0 76 RX0 yX0_beginsExtent wsX0_beginsExtent) := goodIn_app (goodIn_of _ (by decide +kernel)) ggX0_beginOfExtent_X0_beginsExtent
theorem dX0_beginOfExtent_0 : decode cX0_beginOfExtent 0 = .ok (.iconst 0, 1) := by decide +kernel
theorem dX0_beginOfExtent_1 : decode cX0_beginOfExtent 1 = .ok (.istore_n 2, 1) := by decide +kernel
theorem dX0_beginOfExtent_2 : decode cX0_beginOfExtent 2 = .ok (.iconst 0, 1) := by decide +kernel
theorem dX0_beginOfExtent_3 : decode cX0_beginOfExtent 3 = .ok (.istore_n 3, 1) := by decide +kernel
theorem dX0_beginOfExtent_4 : decode cX0_beginOfExtent 4 = .ok (.iload_n 3, 1) := by decide +kernel
theorem dX0_beginOfExtent_5 : decode cX0_beginOfExtent 5 = .ok (.bipush 64, 2) := by decide +kernel
theorem dX0_beginOfExtent_7 : decode cX0_beginOfExtent 7 = .ok (.if_icmp .ge 27, 3) := by decide +kernel
theorem dX0_beginOfExtent_10 : decode cX0_beginOfExtent 10 = .ok (.aload_n 0, 1) := by decide +kernel
theorem dX0_beginOfExtent_11 : decode cX0_beginOfExtent 11 = .ok (.iload_n 3, 1) := by decide +kernel
theorem dX0_beginOfExtent_12 : decode cX0_beginOfExtent 12 = .ok (.invokevirtual 76, 3) := by decide +kernel
theorem dX0_beginOfExtent_15 : decode cX0_beginOfExtent 15 = .ok (.ifCond .eq 13, 3) := by decide +kernel
theorem dX0_beginOfExtent_18 : decode cX0_beginOfExtent 18 = .ok (.iload_n 2, 1) := by decide +kernel
theorem dX0_beginOfExtent_19 : decode cX0_beginOfExtent 19 = .ok (.iload_n 1, 1) := by decide +kernel
theorem dX0_beginOfExtent_20 : decode cX0_beginOfExtent 20 = .ok (.if_icmp .ne 5, 3) := by decide +kernel
theorem dX0_beginOfExtent_23 : decode cX0_beginOfExtent 23 = .ok (.iload_n 3, 1) := by decide +kernel
theorem dX0_beginOfExtent_24 : decode cX0_beginOfExtent 24 = .ok (.ireturn, 1) := by decide +kernel
theorem dX0_beginOfExtent_25 : decode cX0_beginOfExtent 25 = .ok (.iinc 2 1, 3) := by decide +kernel
theorem dX0_beginOfExtent_28 : decode cX0_beginOfExtent 28 = .ok (.iinc 3 1, 3) := by decide +kernel
theorem dX0_beginOfExtent_31 : decode cX0_beginOfExtent 31 = .ok (.goto (-27), 3) := by decide +kernel
theorem dX0_beginOfExtent_34 : decode cX0_beginOfExtent 34 = .ok (.iconst (-1), 1) := by decide +kernel
theorem dX0_beginOfExtent_35 : decode cX0_beginOfExtent 35 = .ok (.ireturn, 1) := by decide +kernel
set_option maxRecDepth 20000 in
theorem ggX0_lengthOfExtent_X0_joinsAhead : GoodIn wsX0_lengthOfExtent wsX0_joinsAhead := goodIn_r _ [5, 6, 7, 8, 9, 4, 10, 11, 12, 13, 14, 15, 16, 17, 18, 19, 20, 21] (by decide +kernel) (by decide +kernel)
set_option maxRecDepth 20000 in
theorem gX0_lengthOfExtent_X0_joinsAhead : GoodIn wsX0_lengthOfExtent (wsV RX0 73 RX0 yX0_joinsAhead wsX0_joinsAhead) := goodIn_app (goodIn_of _ (by decide +kernel)) ggX0_lengthOfExtent_X0_joinsAhead
theorem dX0_lengthOfExtent_0 : decode cX0_lengthOfExtent 0 = .ok (.iload_n 1, 1) := by decide +kernel
theorem dX0_lengthOfExtent_1 : decode cX0_lengthOfExtent 1 = .ok (.iconst 1, 1) := by decide +kernel
theorem dX0_lengthOfExtent_2 : decode cX0_lengthOfExtent 2 = .ok (.iadd, 1) := by decide +kernel
theorem dX0_lengthOfExtent_3 : decode cX0_lengthOfExtent 3 = .ok (.istore_n 2, 1) := by decide +kernel
theorem dX0_lengthOfExtent_4 : decode cX0_lengthOfExtent 4 = .ok (.iload_n 2, 1) := by decide +kernel
theorem dX0_lengthOfExtent_5 : decode cX0_lengthOfExtent 5 = .ok (.bipush 64, 2) := by decide +kernel
theorem dX0_lengthOfExtent_7 : decode cX0_lengthOfExtent 7 = .ok (.if_icmp .ge 17, 3) := by decide +kernel
theorem dX0_lengthOfExtent_10 : decode cX0_lengthOfExtent 10 = .ok (.aload_n 0, 1) := by decide +kernel
theorem dX0_lengthOfExtent_11 : decode cX0_lengthOfExtent 11 = .ok (.iload_n 2, 1) := by decide +kernel
theorem dX0_lengthOfExtent_12 : decode cX0_lengthOfExtent 12 = .ok (.invokevirtual 73, 3) := by decide +kernel
theorem dX0_lengthOfExtent_15 : decode cX0_lengthOfExtent 15 = .ok (.ifCond .eq 9, 3) := by decide +kernel
theorem dX0_lengthOfExtent_18 : decode cX0_lengthOfExtent 18 = .ok (.iinc 2 1, 3) := by decide +kernel
theorem dX0_lengthOfExtent_21 : decode cX0_lengthOfExtent 21 = .ok (.goto (-17), 3) := by decide +kernel
theorem dX0_lengthOfExtent_24 : decode cX0_lengthOfExtent 24 = .ok (.iload_n 2, 1) := by decide +kernel
theorem dX0_lengthOfExtent_25 : decode cX0_lengthOfExtent 25 = .ok (.iload_n 1, 1) := by decide +kernel
theorem dX0_lengthOfExtent_26 : decode cX0_lengthOfExtent 26 = .ok (.isub, 1) := by decide +kernel
theorem dX0_lengthOfExtent_27 : decode cX0_lengthOfExtent 27 = .ok (.ireturn, 1) := by decide +kernel
set_option maxRecDepth 20000 in
theorem ggX1_init_X3_init : GoodIn wsX1_init wsX3_init := goodIn_r _ [10, 11, 2, 3, 12, 13, 14, 15, 16, 17, 18, 19, 20, 21, 22, 23, 24, 25, 26] (by decide +kernel) (by decide +kernel)
set_option maxRecDepth 20000 in
theorem gX1_init_X3_init_n11 : GoodIn wsX1_init (wsX3_init) := ggX1_init_X3_init
theorem dX1_init_0 : decode cX1_init 0 = .ok (.aload_n 0, 1) := by decide +kernel
theorem dX1_init_1 : decode cX1_init 1 = .ok (.invokespecial 3, 3) := by decide +kernel
theorem dX1_init_4 : decode cX1_init 4 = .ok (.aload_n 0, 1) := by decide +kernel
theorem dX1_init_5 : decode cX1_init 5 = .ok (.new 9, 3) := by decide +kernel
theorem dX1_init_8 : decode cX1_init 8 = .ok (.dup, 1) := by decide +kernel
theorem dX1_init_9 : decode cX1_init 9 = .ok (.iconst 0, 1) := by decide +kernel
theorem dX1_init_10 : decode cX1_init 10 = .ok (.iconst 0, 1) := by decide +kernel
theorem dX1_init_11 : decode cX1_init 11 = .ok (.invokespecial 11, 3) := by decide +kernel
theorem dX1_init_14 : decode cX1_init 14 = .ok (.putfield 14, 3) := by decide +kernel
theorem dX1_init_17 : decode cX1_init 17 = .ok (.aload_n 0, 1) := by decide +kernel
theorem dX1_init_18 : decode cX1_init 18 = .ok (.iconst 1, 1) := by decide +kernel
theorem dX1_init_19 : decode cX1_init 19 = .ok (.putfield 20, 3) := by decide +kernel
theorem dX1_init_22 : decode cX1_init 22 = .ok (.return_, 1) := by decide +kernel
theorem dX1_isFull_0 : decode cX1_isFull 0 = .ok (.aload_n 0, 1) := by decide +kernel
theorem dX1_isFull_1 : decode cX1_isFull 1 = .ok (.getfield 20, 3) := by decide +kernel
theorem dX1_isFull_4 : decode cX1_isFull 4 = .ok (.sipush 512, 3) := by decide +kernel
theorem dX1_isFull_7 : decode cX1_isFull 7 = .ok (.if_icmp .lt 7, 3) := by decide +kernel
theorem dX1_isFull_10 : decode cX1_isFull 10 = .ok (.iconst 1, 1) := by decide +kernel
theorem dX1_isFull_11 : decode cX1_isFull 11 = .ok (.goto 4, 3) := by decide +kernel
theorem dX1_isFull_14 : decode cX1_isFull 14 = .ok (.iconst 0, 1) := by decide +kernel
theorem dX1_isFull_15 : decode cX1_isFull 15 = .ok (.ireturn, 1) := by decide +kernel
set_option maxRecDepth 20000 in
theorem ggX1_add_X4_hashOf : GoodIn wsX1_add wsX4_hashOf := goodIn_r _ [4] (by decide +kernel) (by decide +kernel)
set_option maxRecDepth 20000 in
theorem gX1_add_X4_hashOf_n24 : GoodIn wsX1_add (wsX4_hashOf) := ggX1_add_X4_hashOf
set_option maxRecDepth 20000 in
theorem ggX1_add_X1_lastLeafFor : GoodIn wsX1_add wsX1_lastLeafFor := goodIn_r _ [9, 10, 49, 50, 42, 43, 44, 45, 46, 47, 48] (by decide +kernel) (by decide +kernel)
set_option maxRecDepth 20000 in
theorem gX1_add_X1_lastLeafFor : GoodIn wsX1_add (wsV RX1 28 RX1 yX1_lastLeafFor wsX1_lastLeafFor) := goodIn_app (goodIn_of _ (by decide +kernel)) ggX1_add_X1_lastLeafFor
set_option maxRecDepth 20000 in
theorem ggX1_add_X3_split : GoodIn wsX1_add wsX3_split := goodIn_r _ [14, 15, 16, 17, 12, 18, 19, 2, 3, 4, 20, 21, 22, 23, 24, 25, 26, 27, 28, 29, 30, 31, 32, 33, 34, 35, 36, 37, 38, 39, 40, 41, 42, 43, 44, 45, 46, 47, 48] (by decide +kernel) (by decide +kernel)
set_option maxRecDepth 20000 in
theorem gX1_add_X3_split_n35 : GoodIn wsX1_add (wsX3_split) := ggX1_add_X3_split
set_option maxRecDepth 20000 in
theorem ggX1_add_X3_insert : GoodIn wsX1_add wsX3_insert := goodIn_r _ [34, 18, 15, 19, 35, 36, 12, 37, 2, 3, 4, 42, 43, 44, 45, 46, 47, 48] (by decide +kernel) (by decide +kernel)
set_option maxRecDepth 20000 in
theorem gX1_add_X3_insert_n38 : GoodIn wsX1_add (wsX3_insert) := ggX1_add_X3_insert
theorem dX1_add_0 : decode cX1_add 0 = .ok (.aload_n 0, 1) := by decide +kernel
theorem dX1_add_1 : decode cX1_add 1 = .ok (.iload_n 1, 1) := by decide +kernel
theorem dX1_add_2 : decode cX1_add 2 = .ok (.invokestatic 24, 3) := by decide +kernel
theorem dX1_add_5 : decode cX1_add 5 = .ok (.invokevirtual 28, 3) := by decide +kernel
theorem dX1_add_8 : decode cX1_add 8 = .ok (.astore_n 3, 1) := by decide +kernel
theorem dX1_add_9 : decode cX1_add 9 = .ok (.aload_n 3, 1) := by decide +kernel
theorem dX1_add_10 : decode cX1_add 10 = .ok (.getfield 32, 3) := by decide +kernel
theorem dX1_add_13 : decode cX1_add 13 = .ok (.iconst 4, 1) := by decide +kernel
theorem dX1_add_14 : decode cX1_add 14 = .ok (.if_icmp .ne 26, 3) := by decide +kernel
theorem dX1_add_17 : decode cX1_add 17 = .ok (.aload_n 3, 1) := by decide +kernel
theorem dX1_add_18 : decode cX1_add 18 = .ok (.invokevirtual 35, 3) := by decide +kernel
theorem dX1_add_21 : decode cX1_add 21 = .ok (.aload_n 0, 1) := by decide +kernel
theorem dX1_add_22 : decode cX1_add 22 = .ok (.dup, 1) := by decide +kernel
theorem dX1_add_23 : decode cX1_add 23 = .ok (.getfield 20, 3) := by decide +kernel
theorem dX1_add_26 : decode cX1_add 26 = .ok (.iconst 1, 1) := by decide +kernel
theorem dX1_add_27 : decode cX1_add 27 = .ok (.iadd, 1) := by decide +kernel
theorem dX1_add_28 : decode cX1_add 28 = .ok (.putfield 20, 3) := by decide +kernel
theorem dX1_add_31 : decode cX1_add 31 = .ok (.aload_n 0, 1) := by decide +kernel
theorem dX1_add_32 : decode cX1_add 32 = .ok (.iload_n 1, 1) := by decide +kernel
theorem dX1_add_33 : decode cX1_add 33 = .ok (.invokestatic 24, 3) := by decide +kernel
theorem dX1_add_36 : decode cX1_add 36 = .ok (.invokevirtual 28, 3) := by decide +kernel
theorem dX1_add_39 : decode cX1_add 39 = .ok (.astore_n 3, 1) := by decide +kernel
theorem dX1_add_40 : decode cX1_add 40 = .ok (.aload_n 3, 1) := by decide +kernel
theorem dX1_add_41 : decode cX1_add 41 = .ok (.iload_n 1, 1) := by decide +kernel
theorem dX1_add_42 : decode cX1_add 42 = .ok (.iload_n 2, 1) := by decide +kernel
theorem dX1_add_43 : decode cX1_add 43 = .ok (.invokevirtual 38, 3) := by decide +kernel
theorem dX1_add_46 : decode cX1_add 46 = .ok (.return_, 1) := by decide +kernel
set_option maxRecDepth 20000 in
theorem ggX1_takeOut_X1_lastLookedAt : GoodIn wsX1_takeOut wsX1_lastLookedAt := goodIn_r _ [5, 6, 7, 8, 9, 10, 11, 4, 12, 13, 14, 15, 16, 17, 18, 19, 20, 21, 22, 23, 24, 25, 26, 27, 28, 29, 30, 31, 32, 37, 38, 39, 40, 41, 42, 43, 44, 45] (by decide +kernel) (by decide +kernel)
set_option maxRecDepth 20000 in
theorem gX1_takeOut_X1_lastLookedAt : GoodIn wsX1_takeOut (wsV RX1 42 RX1 yX1_lastLookedAt wsX1_lastLookedAt) := goodIn_app (goodIn_of _ (by decide +kernel)) ggX1_takeOut_X1_lastLookedAt
set_option maxRecDepth 20000 in
theorem ggX1_takeOut_X3_takeOut : GoodIn wsX1_takeOut wsX3_takeOut := goodIn_r _ [35, 31, 32, 36, 27, 28, 29, 19, 30, 37, 38, 39, 40, 41, 42, 43] (by decide +kernel) (by decide +kernel)
set_option maxRecDepth 20000 in
theorem gX1_takeOut_X3_takeOut_n45 : GoodIn wsX1_takeOut (wsX3_takeOut) := ggX1_takeOut_X3_takeOut
theorem dX1_takeOut_0 : decode cX1_takeOut 0 = .ok (.aload_n 0, 1) := by decide +kernel
theorem dX1_takeOut_1 : decode cX1_takeOut 1 = .ok (.iload_n 1, 1) := by decide +kernel
theorem dX1_takeOut_2 : decode cX1_takeOut 2 = .ok (.invokevirtual 42, 3) := by decide +kernel
theorem dX1_takeOut_5 : decode cX1_takeOut 5 = .ok (.iload_n 1, 1) := by decide +kernel
theorem dX1_takeOut_6 : decode cX1_takeOut 6 = .ok (.invokevirtual 45, 3) := by decide +kernel
theorem dX1_takeOut_9 : decode cX1_takeOut 9 = .ok (.return_, 1) := by decide +kernel
set_option maxRecDepth 20000 in
theorem ggX1_fileWith_X1_lastLookedAt : GoodIn wsX1_fileWith wsX1_lastLookedAt := goodIn_r _ [5, 6, 7, 8, 9, 10, 11, 4, 12, 13, 14, 15, 16, 17, 18, 19, 20, 21, 22, 23, 24, 25, 26, 27, 28, 29, 30, 31, 32, 37, 38, 39, 40, 41, 42, 43, 44, 45] (by decide +kernel) (by decide +kernel)
set_option maxRecDepth 20000 in
theorem gX1_fileWith_X1_lastLookedAt : GoodIn wsX1_fileWith (wsV RX1 42 RX1 yX1_lastLookedAt wsX1_lastLookedAt) := goodIn_app (goodIn_of _ (by decide +kernel)) ggX1_fileWith_X1_lastLookedAt
set_option maxRecDepth 20000 in
theorem ggX1_fileWith_X3_fileWith : GoodIn wsX1_fileWith wsX3_fileWith := goodIn_r _ [35, 36, 27, 28, 29, 19, 30, 31, 32, 37, 38, 39, 40, 41, 42, 43] (by decide +kernel) (by decide +kernel)
set_option maxRecDepth 20000 in
theorem gX1_fileWith_X3_fileWith_n49 : GoodIn wsX1_fileWith (wsX3_fileWith) := ggX1_fileWith_X3_fileWith
theorem dX1_fileWith_0 : decode cX1_fileWith 0 = .ok (.aload_n 0, 1) := by decide +kernel
theorem dX1_fileWith_1 : decode cX1_fileWith 1 = .ok (.iload_n 1, 1) := by decide +kernel
theorem dX1_fileWith_2 : decode cX1_fileWith 2 = .ok (.invokevirtual 42, 3) := by decide +kernel
theorem dX1_fileWith_5 : decode cX1_fileWith 5 = .ok (.iload_n 1, 1) := by decide +kernel
theorem dX1_fileWith_6 : decode cX1_fileWith 6 = .ok (.invokevirtual 49, 3) := by decide +kernel
theorem dX1_fileWith_9 : decode cX1_fileWith 9 = .ok (.ireturn, 1) := by decide +kernel
set_option maxRecDepth 20000 in
theorem ggX1_countLooks_X1_lastLookedAt : GoodIn wsX1_countLooks wsX1_lastLookedAt := goodIn_r _ [5, 6, 7, 8, 9, 10, 11, 4, 12, 13, 14, 15, 16, 17, 18, 19, 20, 21, 22, 23, 24, 25, 26, 27, 28, 29, 30, 31, 32, 33, 34, 35, 36, 37, 38, 39, 40, 41] (by decide +kernel) (by decide +kernel)
set_option maxRecDepth 20000 in
theorem gX1_countLooks_X1_lastLookedAt : GoodIn wsX1_countLooks (wsV RX1 42 RX1 yX1_lastLookedAt wsX1_lastLookedAt) := goodIn_app (goodIn_of _ (by decide +kernel)) ggX1_countLooks_X1_lastLookedAt
set_option maxRecDepth 20000 in
theorem ggX1_countLooks_X1_firstLookedAt : GoodIn wsX1_countLooks wsX1_firstLookedAt := goodIn_r _ [12, 6, 7, 8, 13, 14, 15, 4, 16, 17, 18, 19, 20, 21, 22, 23, 33, 34, 35, 36, 37, 38, 39, 40, 41] (by decide +kernel) (by decide +kernel)
set_option maxRecDepth 20000 in
theorem gX1_countLooks_X1_firstLookedAt : GoodIn wsX1_countLooks (wsV RX1 52 RX1 yX1_firstLookedAt wsX1_firstLookedAt) := goodIn_app (goodIn_of _ (by decide +kernel)) ggX1_countLooks_X1_firstLookedAt
theorem dX1_countLooks_0 : decode cX1_countLooks 0 = .ok (.aload_n 0, 1) := by decide +kernel
theorem dX1_countLooks_1 : decode cX1_countLooks 1 = .ok (.iload_n 1, 1) := by decide +kernel
theorem dX1_countLooks_2 : decode cX1_countLooks 2 = .ok (.invokevirtual 42, 3) := by decide +kernel
theorem dX1_countLooks_5 : decode cX1_countLooks 5 = .ok (.astore_n 2, 1) := by decide +kernel
theorem dX1_countLooks_6 : decode cX1_countLooks 6 = .ok (.iconst 1, 1) := by decide +kernel
theorem dX1_countLooks_7 : decode cX1_countLooks 7 = .ok (.istore_n 3, 1) := by decide +kernel
theorem dX1_countLooks_8 : decode cX1_countLooks 8 = .ok (.aload_n 0, 1) := by decide +kernel
theorem dX1_countLooks_9 : decode cX1_countLooks 9 = .ok (.iload_n 1, 1) := by decide +kernel
theorem dX1_countLooks_10 : decode cX1_countLooks 10 = .ok (.invokevirtual 52, 3) := by decide +kernel
theorem dX1_countLooks_13 : decode cX1_countLooks 13 = .ok (.astore 4, 2) := by decide +kernel
theorem dX1_countLooks_15 : decode cX1_countLooks 15 = .ok (.aload 4, 2) := by decide +kernel
theorem dX1_countLooks_17 : decode cX1_countLooks 17 = .ok (.ifnull 22, 3) := by decide +kernel
theorem dX1_countLooks_20 : decode cX1_countLooks 20 = .ok (.aload 4, 2) := by decide +kernel
theorem dX1_countLooks_22 : decode cX1_countLooks 22 = .ok (.aload_n 2, 1) := by decide +kernel
theorem dX1_countLooks_23 : decode cX1_countLooks 23 = .ok (.if_acmp .eq 16, 3) := by decide +kernel
theorem dX1_countLooks_26 : decode cX1_countLooks 26 = .ok (.iinc 3 1, 3) := by decide +kernel
theorem dX1_countLooks_29 : decode cX1_countLooks 29 = .ok (.aload 4, 2) := by decide +kernel
theorem dX1_countLooks_31 : decode cX1_countLooks 31 = .ok (.getfield 55, 3) := by decide +kernel
theorem dX1_countLooks_34 : decode cX1_countLooks 34 = .ok (.astore 4, 2) := by decide +kernel
theorem dX1_countLooks_36 : decode cX1_countLooks 36 = .ok (.goto (-21), 3) := by decide +kernel
theorem dX1_countLooks_39 : decode cX1_countLooks 39 = .ok (.iload_n 3, 1) := by decide +kernel
theorem dX1_countLooks_40 : decode cX1_countLooks 40 = .ok (.ireturn, 1) := by decide +kernel
theorem dX1_lastLeafFor_0 : decode cX1_lastLeafFor 0 = .ok (.aload_n 0, 1) := by decide +kernel
theorem dX1_lastLeafFor_1 : decode cX1_lastLeafFor 1 = .ok (.getfield 14, 3) := by decide +kernel
theorem dX1_lastLeafFor_4 : decode cX1_lastLeafFor 4 = .ok (.astore_n 2, 1) := by decide +kernel
theorem dX1_lastLeafFor_5 : decode cX1_lastLeafFor 5 = .ok (.aload_n 0, 1) := by decide +kernel
theorem dX1_lastLeafFor_6 : decode cX1_lastLeafFor 6 = .ok (.getfield 14, 3) := by decide +kernel
theorem dX1_lastLeafFor_9 : decode cX1_lastLeafFor 9 = .ok (.astore_n 3, 1) := by decide +kernel
theorem dX1_lastLeafFor_10 : decode cX1_lastLeafFor 10 = .ok (.aload_n 3, 1) := by decide +kernel
theorem dX1_lastLeafFor_11 : decode cX1_lastLeafFor 11 = .ok (.ifnull 21, 3) := by decide +kernel
theorem dX1_lastLeafFor_14 : decode cX1_lastLeafFor 14 = .ok (.aload_n 3, 1) := by decide +kernel
theorem dX1_lastLeafFor_15 : decode cX1_lastLeafFor 15 = .ok (.getfield 58, 3) := by decide +kernel
theorem dX1_lastLeafFor_18 : decode cX1_lastLeafFor 18 = .ok (.iload_n 1, 1) := by decide +kernel
theorem dX1_lastLeafFor_19 : decode cX1_lastLeafFor 19 = .ok (.if_icmp .gt 5, 3) := by decide +kernel
theorem dX1_lastLeafFor_22 : decode cX1_lastLeafFor 22 = .ok (.aload_n 3, 1) := by decide +kernel
theorem dX1_lastLeafFor_23 : decode cX1_lastLeafFor 23 = .ok (.astore_n 2, 1) := by decide +kernel
theorem dX1_lastLeafFor_24 : decode cX1_lastLeafFor 24 = .ok (.aload_n 3, 1) := by decide +kernel
theorem dX1_lastLeafFor_25 : decode cX1_lastLeafFor 25 = .ok (.getfield 55, 3) := by decide +kernel
theorem dX1_lastLeafFor_28 : decode cX1_lastLeafFor 28 = .ok (.astore_n 3, 1) := by decide +kernel
theorem dX1_lastLeafFor_29 : decode cX1_lastLeafFor 29 = .ok (.goto (-19), 3) := by decide +kernel
theorem dX1_lastLeafFor_32 : decode cX1_lastLeafFor 32 = .ok (.aload_n 2, 1) := by decide +kernel
theorem dX1_lastLeafFor_33 : decode cX1_lastLeafFor 33 = .ok (.areturn, 1) := by decide +kernel
set_option maxRecDepth 20000 in
theorem ggX1_firstLookedAt_X4_hashOf : GoodIn wsX1_firstLookedAt wsX4_hashOf := goodIn_r _ [3] (by decide +kernel) (by decide +kernel)
set_option maxRecDepth 20000 in
theorem gX1_firstLookedAt_X4_hashOf_n24 : GoodIn wsX1_firstLookedAt (wsX4_hashOf) := ggX1_firstLookedAt_X4_hashOf
set_option maxRecDepth 20000 in
theorem ggX1_firstLookedAt_X1_lastLeafFor : GoodIn wsX1_firstLookedAt wsX1_lastLeafFor := goodIn_r _ [8, 9, 23, 24, 16, 17, 18, 19, 20, 21, 22] (by decide +kernel) (by decide +kernel)
set_option maxRecDepth 20000 in
theorem gX1_firstLookedAt_X1_lastLeafFor : GoodIn wsX1_firstLookedAt (wsV RX1 28 RX1 yX1_lastLeafFor wsX1_lastLeafFor) := goodIn_app (goodIn_of _ (by decide +kernel)) ggX1_firstLookedAt_X1_lastLeafFor
set_option maxRecDepth 20000 in
theorem ggX1_firstLookedAt_X3_continues : GoodIn wsX1_firstLookedAt wsX3_continues := goodIn_r _ [13, 14, 15, 16, 17, 18, 19, 20, 21, 22] (by decide +kernel) (by decide +kernel)
set_option maxRecDepth 20000 in
theorem gX1_firstLookedAt_X3_continues_n61 : GoodIn wsX1_firstLookedAt (wsX3_continues) := ggX1_firstLookedAt_X3_continues
theorem dX1_firstLookedAt_0 : decode cX1_firstLookedAt 0 = .ok (.iload_n 1, 1) := by decide +kernel
theorem dX1_firstLookedAt_1 : decode cX1_firstLookedAt 1 = .ok (.invokestatic 24, 3) := by decide +kernel
theorem dX1_firstLookedAt_4 : decode cX1_firstLookedAt 4 = .ok (.istore_n 2, 1) := by decide +kernel
theorem dX1_firstLookedAt_5 : decode cX1_firstLookedAt 5 = .ok (.aload_n 0, 1) := by decide +kernel
theorem dX1_firstLookedAt_6 : decode cX1_firstLookedAt 6 = .ok (.iload_n 2, 1) := by decide +kernel
theorem dX1_firstLookedAt_7 : decode cX1_firstLookedAt 7 = .ok (.invokevirtual 28, 3) := by decide +kernel
theorem dX1_firstLookedAt_10 : decode cX1_firstLookedAt 10 = .ok (.astore_n 3, 1) := by decide +kernel
theorem dX1_firstLookedAt_11 : decode cX1_firstLookedAt 11 = .ok (.aload_n 3, 1) := by decide +kernel
theorem dX1_firstLookedAt_12 : decode cX1_firstLookedAt 12 = .ok (.iload_n 2, 1) := by decide +kernel
theorem dX1_firstLookedAt_13 : decode cX1_firstLookedAt 13 = .ok (.invokevirtual 61, 3) := by decide +kernel
theorem dX1_firstLookedAt_16 : decode cX1_firstLookedAt 16 = .ok (.ifCond .eq 18, 3) := by decide +kernel
theorem dX1_firstLookedAt_19 : decode cX1_firstLookedAt 19 = .ok (.aload_n 3, 1) := by decide +kernel
theorem dX1_firstLookedAt_20 : decode cX1_firstLookedAt 20 = .ok (.getfield 65, 3) := by decide +kernel
theorem dX1_firstLookedAt_23 : decode cX1_firstLookedAt 23 = .ok (.ifnull 11, 3) := by decide +kernel
theorem dX1_firstLookedAt_26 : decode cX1_firstLookedAt 26 = .ok (.aload_n 3, 1) := by decide +kernel
theorem dX1_firstLookedAt_27 : decode cX1_firstLookedAt 27 = .ok (.getfield 65, 3) := by decide +kernel
theorem dX1_firstLookedAt_30 : decode cX1_firstLookedAt 30 = .ok (.astore_n 3, 1) := by decide +kernel
theorem dX1_firstLookedAt_31 : decode cX1_firstLookedAt 31 = .ok (.goto (-20), 3) := by decide +kernel
theorem dX1_firstLookedAt_34 : decode cX1_firstLookedAt 34 = .ok (.aload_n 3, 1) := by decide +kernel
theorem dX1_firstLookedAt_35 : decode cX1_firstLookedAt 35 = .ok (.areturn, 1) := by decide +kernel
set_option maxRecDepth 20000 in
theorem ggX1_lastLookedAt_X4_hashOf : GoodIn wsX1_lastLookedAt wsX4_hashOf := goodIn_r _ [3] (by decide +kernel) (by decide +kernel)
set_option maxRecDepth 20000 in
theorem gX1_lastLookedAt_X4_hashOf_n24 : GoodIn wsX1_lastLookedAt (wsX4_hashOf) := ggX1_lastLookedAt_X4_hashOf
set_option maxRecDepth 20000 in
theorem ggX1_lastLookedAt_X1_firstLookedAt : GoodIn wsX1_lastLookedAt wsX1_firstLookedAt := goodIn_r _ [8, 1, 2, 3, 9, 10, 11, 7, 12, 13, 14, 15, 16, 17, 18, 19, 29, 30, 31, 32, 33, 34, 35, 36, 37] (by decide +kernel) (by decide +kernel)
set_option maxRecDepth 20000 in
theorem gX1_lastLookedAt_X1_firstLookedAt : GoodIn wsX1_lastLookedAt (wsV RX1 52 RX1 yX1_firstLookedAt wsX1_firstLookedAt) := goodIn_app (goodIn_of _ (by decide +kernel)) ggX1_lastLookedAt_X1_firstLookedAt
set_option maxRecDepth 20000 in
theorem ggX1_lastLookedAt_X3_has : GoodIn wsX1_lastLookedAt wsX3_has := goodIn_r _ [22, 23, 24, 25, 15, 26, 27, 28, 29, 30, 31, 32, 33, 34, 35] (by decide +kernel) (by decide +kernel)
set_option maxRecDepth 20000 in
theorem gX1_lastLookedAt_X3_has_n68 : GoodIn wsX1_lastLookedAt (wsX3_has) := ggX1_lastLookedAt_X3_has
set_option maxRecDepth 20000 in
theorem ggX1_lastLookedAt_X3_continues : GoodIn wsX1_lastLookedAt wsX3_continues := goodIn_r _ [17, 18, 19, 29, 30, 31, 32, 33, 34, 35] (by decide +kernel) (by decide +kernel)
set_option maxRecDepth 20000 in
theorem gX1_lastLookedAt_X3_continues_n61 : GoodIn wsX1_lastLookedAt (wsX3_continues) := ggX1_lastLookedAt_X3_continues
theorem dX1_lastLookedAt_0 : decode cX1_lastLookedAt 0 = .ok (.iload_n 1, 1) := by decide +kernel
theorem dX1_lastLookedAt_1 : decode cX1_lastLookedAt 1 = .ok (.invokestatic 24, 3) := by decide +kernel
theorem dX1_lastLookedAt_4 : decode cX1_lastLookedAt 4 = .ok (.istore_n 2, 1) := by decide +kernel
theorem dX1_lastLookedAt_5 : decode cX1_lastLookedAt 5 = .ok (.aload_n 0, 1) := by decide +kernel
theorem dX1_lastLookedAt_6 : decode cX1_lastLookedAt 6 = .ok (.iload_n 1, 1) := by decide +kernel
theorem dX1_lastLookedAt_7 : decode cX1_lastLookedAt 7 = .ok (.invokevirtual 52, 3) := by decide +kernel
theorem dX1_lastLookedAt_10 : decode cX1_lastLookedAt 10 = .ok (.astore_n 3, 1) := by decide +kernel
theorem dX1_lastLookedAt_11 : decode cX1_lastLookedAt 11 = .ok (.aload_n 3, 1) := by decide +kernel
theorem dX1_lastLookedAt_12 : decode cX1_lastLookedAt 12 = .ok (.iload_n 1, 1) := by decide +kernel
theorem dX1_lastLookedAt_13 : decode cX1_lastLookedAt 13 = .ok (.invokevirtual 68, 3) := by decide +kernel
theorem dX1_lastLookedAt_16 : decode cX1_lastLookedAt 16 = .ok (.ifCond .ne 29, 3) := by decide +kernel
theorem dX1_lastLookedAt_19 : decode cX1_lastLookedAt 19 = .ok (.aload_n 3, 1) := by decide +kernel
theorem dX1_lastLookedAt_20 : decode cX1_lastLookedAt 20 = .ok (.getfield 55, 3) := by decide +kernel
theorem dX1_lastLookedAt_23 : decode cX1_lastLookedAt 23 = .ok (.ifnull 22, 3) := by decide +kernel
theorem dX1_lastLookedAt_26 : decode cX1_lastLookedAt 26 = .ok (.aload_n 3, 1) := by decide +kernel
theorem dX1_lastLookedAt_27 : decode cX1_lastLookedAt 27 = .ok (.getfield 55, 3) := by decide +kernel
theorem dX1_lastLookedAt_30 : decode cX1_lastLookedAt 30 = .ok (.iload_n 2, 1) := by decide +kernel
theorem dX1_lastLookedAt_31 : decode cX1_lastLookedAt 31 = .ok (.invokevirtual 61, 3) := by decide +kernel
theorem dX1_lastLookedAt_34 : decode cX1_lastLookedAt 34 = .ok (.ifCond .eq 11, 3) := by decide +kernel
theorem dX1_lastLookedAt_37 : decode cX1_lastLookedAt 37 = .ok (.aload_n 3, 1) := by decide +kernel
theorem dX1_lastLookedAt_38 : decode cX1_lastLookedAt 38 = .ok (.getfield 55, 3) := by decide +kernel
theorem dX1_lastLookedAt_41 : decode cX1_lastLookedAt 41 = .ok (.astore_n 3, 1) := by decide +kernel
theorem dX1_lastLookedAt_42 : decode cX1_lastLookedAt 42 = .ok (.goto (-31), 3) := by decide +kernel
theorem dX1_lastLookedAt_45 : decode cX1_lastLookedAt 45 = .ok (.aload_n 3, 1) := by decide +kernel
theorem dX1_lastLookedAt_46 : decode cX1_lastLookedAt 46 = .ok (.areturn, 1) := by decide +kernel
theorem dX2_init_0 : decode cX2_init 0 = .ok (.aload_n 0, 1) := by decide +kernel
theorem dX2_init_1 : decode cX2_init 1 = .ok (.invokespecial 3, 3) := by decide +kernel
theorem dX2_init_4 : decode cX2_init 4 = .ok (.aload_n 0, 1) := by decide +kernel
theorem dX2_init_5 : decode cX2_init 5 = .ok (.sipush 128, 3) := by decide +kernel
theorem dX2_init_8 : decode cX2_init 8 = .ok (.newarray .boolean, 2) := by decide +kernel
theorem dX2_init_10 : decode cX2_init 10 = .ok (.putfield 9, 3) := by decide +kernel
theorem dX2_init_13 : decode cX2_init 13 = .ok (.aload_n 0, 1) := by decide +kernel
theorem dX2_init_14 : decode cX2_init 14 = .ok (.sipush 128, 3) := by decide +kernel
theorem dX2_init_17 : decode cX2_init 17 = .ok (.putfield 15, 3) := by decide +kernel
theorem dX2_init_20 : decode cX2_init 20 = .ok (.return_, 1) := by decide +kernel
theorem dX2_areFree_0 : decode cX2_areFree 0 = .ok (.iload_n 1, 1) := by decide +kernel
theorem dX2_areFree_1 : decode cX2_areFree 1 = .ok (.ifCond .lt 12, 3) := by decide +kernel
theorem dX2_areFree_4 : decode cX2_areFree 4 = .ok (.iload_n 2, 1) := by decide +kernel
theorem dX2_areFree_5 : decode cX2_areFree 5 = .ok (.sipush 128, 3) := by decide +kernel
theorem dX2_areFree_8 : decode cX2_areFree 8 = .ok (.iload_n 1, 1) := by decide +kernel
theorem dX2_areFree_9 : decode cX2_areFree 9 = .ok (.isub, 1) := by decide +kernel
theorem dX2_areFree_10 : decode cX2_areFree 10 = .ok (.if_icmp .le 5, 3) := by decide +kernel
theorem dX2_areFree_13 : decode cX2_areFree 13 = .ok (.iconst 0, 1) := by decide +kernel
theorem dX2_areFree_14 : decode cX2_areFree 14 = .ok (.ireturn, 1) := by decide +kernel
theorem dX2_areFree_15 : decode cX2_areFree 15 = .ok (.iload_n 1, 1) := by decide +kernel
theorem dX2_areFree_16 : decode cX2_areFree 16 = .ok (.istore_n 3, 1) := by decide +kernel
theorem dX2_areFree_17 : decode cX2_areFree 17 = .ok (.iload_n 3, 1) := by decide +kernel
theorem dX2_areFree_18 : decode cX2_areFree 18 = .ok (.iload_n 1, 1) := by decide +kernel
theorem dX2_areFree_19 : decode cX2_areFree 19 = .ok (.iload_n 2, 1) := by decide +kernel
theorem dX2_areFree_20 : decode cX2_areFree 20 = .ok (.iadd, 1) := by decide +kernel
theorem dX2_areFree_21 : decode cX2_areFree 21 = .ok (.if_icmp .ge 20, 3) := by decide +kernel
theorem dX2_areFree_24 : decode cX2_areFree 24 = .ok (.aload_n 0, 1) := by decide +kernel
theorem dX2_areFree_25 : decode cX2_areFree 25 = .ok (.getfield 9, 3) := by decide +kernel
theorem dX2_areFree_28 : decode cX2_areFree 28 = .ok (.iload_n 3, 1) := by decide +kernel
theorem dX2_areFree_29 : decode cX2_areFree 29 = .ok (.baload, 1) := by decide +kernel
theorem dX2_areFree_30 : decode cX2_areFree 30 = .ok (.ifCond .eq 5, 3) := by decide +kernel
theorem dX2_areFree_33 : decode cX2_areFree 33 = .ok (.iconst 0, 1) := by decide +kernel
theorem dX2_areFree_34 : decode cX2_areFree 34 = .ok (.ireturn, 1) := by decide +kernel
theorem dX2_areFree_35 : decode cX2_areFree 35 = .ok (.iinc 3 1, 3) := by decide +kernel
theorem dX2_areFree_38 : decode cX2_areFree 38 = .ok (.goto (-21), 3) := by decide +kernel
theorem dX2_areFree_41 : decode cX2_areFree 41 = .ok (.iconst 1, 1) := by decide +kernel
theorem dX2_areFree_42 : decode cX2_areFree 42 = .ok (.ireturn, 1) := by decide +kernel
set_option maxRecDepth 20000 in
theorem ggX2_take_X2_mark : GoodIn wsX2_take wsX2_mark := goodIn_r _ [5, 6, 7, 8, 9] (by decide +kernel) (by decide +kernel)
set_option maxRecDepth 20000 in
theorem gX2_take_X2_mark : GoodIn wsX2_take (wsV RX2 19 RX2 yX2_mark wsX2_mark) := goodIn_app (goodIn_of _ (by decide +kernel)) ggX2_take_X2_mark
theorem dX2_take_0 : decode cX2_take 0 = .ok (.aload_n 0, 1) := by decide +kernel
theorem dX2_take_1 : decode cX2_take 1 = .ok (.iload_n 1, 1) := by decide +kernel
theorem dX2_take_2 : decode cX2_take 2 = .ok (.iload_n 2, 1) := by decide +kernel
theorem dX2_take_3 : decode cX2_take 3 = .ok (.iconst 1, 1) := by decide +kernel
theorem dX2_take_4 : decode cX2_take 4 = .ok (.invokevirtual 19, 3) := by decide +kernel
theorem dX2_take_7 : decode cX2_take 7 = .ok (.return_, 1) := by decide +kernel
set_option maxRecDepth 20000 in
theorem ggX2_release_X2_mark : GoodIn wsX2_release wsX2_mark := goodIn_r _ [5, 6, 7, 8, 9] (by decide +kernel) (by decide +kernel)
set_option maxRecDepth 20000 in
theorem gX2_release_X2_mark : GoodIn wsX2_release (wsV RX2 19 RX2 yX2_mark wsX2_mark) := goodIn_app (goodIn_of _ (by decide +kernel)) ggX2_release_X2_mark
theorem dX2_release_0 : decode cX2_release 0 = .ok (.aload_n 0, 1) := by decide +kernel
theorem dX2_release_1 : decode cX2_release 1 = .ok (.iload_n 1, 1) := by decide +kernel
theorem dX2_release_2 : decode cX2_release 2 = .ok (.iload_n 2, 1) := by decide +kernel
theorem dX2_release_3 : decode cX2_release 3 = .ok (.iconst 0, 1) := by decide +kernel
theorem dX2_release_4 : decode cX2_release 4 = .ok (.invokevirtual 19, 3) := by decide +kernel
theorem dX2_release_7 : decode cX2_release 7 = .ok (.return_, 1) := by decide +kernel
theorem dX2_mark_0 : decode cX2_mark 0 = .ok (.iload_n 1, 1) := by decide +kernel
theorem dX2_mark_1 : decode cX2_mark 1 = .ok (.ifCond .lt 12, 3) := by decide +kernel
theorem dX2_mark_4 : decode cX2_mark 4 = .ok (.iload_n 2, 1) := by decide +kernel
theorem dX2_mark_5 : decode cX2_mark 5 = .ok (.sipush 128, 3) := by decide +kernel
theorem dX2_mark_8 : decode cX2_mark 8 = .ok (.iload_n 1, 1) := by decide +kernel
theorem dX2_mark_9 : decode cX2_mark 9 = .ok (.isub, 1) := by decide +kernel
theorem dX2_mark_10 : decode cX2_mark 10 = .ok (.if_icmp .le 4, 3) := by decide +kernel
theorem dX2_mark_13 : decode cX2_mark 13 = .ok (.return_, 1) := by decide +kernel
theorem dX2_mark_14 : decode cX2_mark 14 = .ok (.iload_n 1, 1) := by decide +kernel
theorem dX2_mark_15 : decode cX2_mark 15 = .ok (.istore 4, 2) := by decide +kernel
theorem dX2_mark_17 : decode cX2_mark 17 = .ok (.iload 4, 2) := by decide +kernel
theorem dX2_mark_19 : decode cX2_mark 19 = .ok (.iload_n 1, 1) := by decide +kernel
theorem dX2_mark_20 : decode cX2_mark 20 = .ok (.iload_n 2, 1) := by decide +kernel
theorem dX2_mark_21 : decode cX2_mark 21 = .ok (.iadd, 1) := by decide +kernel
theorem dX2_mark_22 : decode cX2_mark 22 = .ok (.if_icmp .ge 46, 3) := by decide +kernel
theorem dX2_mark_25 : decode cX2_mark 25 = .ok (.aload_n 0, 1) := by decide +kernel
theorem dX2_mark_26 : decode cX2_mark 26 = .ok (.getfield 9, 3) := by decide +kernel
theorem dX2_mark_29 : decode cX2_mark 29 = .ok (.iload 4, 2) := by decide +kernel
theorem dX2_mark_31 : decode cX2_mark 31 = .ok (.baload, 1) := by decide +kernel
theorem dX2_mark_32 : decode cX2_mark 32 = .ok (.iload_n 3, 1) := by decide +kernel
theorem dX2_mark_33 : decode cX2_mark 33 = .ok (.if_icmp .eq 29, 3) := by decide +kernel
theorem dX2_mark_36 : decode cX2_mark 36 = .ok (.aload_n 0, 1) := by decide +kernel
theorem dX2_mark_37 : decode cX2_mark 37 = .ok (.getfield 9, 3) := by decide +kernel
theorem dX2_mark_40 : decode cX2_mark 40 = .ok (.iload 4, 2) := by decide +kernel
theorem dX2_mark_42 : decode cX2_mark 42 = .ok (.iload_n 3, 1) := by decide +kernel
theorem dX2_mark_43 : decode cX2_mark 43 = .ok (.bastore, 1) := by decide +kernel
theorem dX2_mark_44 : decode cX2_mark 44 = .ok (.aload_n 0, 1) := by decide +kernel
theorem dX2_mark_45 : decode cX2_mark 45 = .ok (.dup, 1) := by decide +kernel
theorem dX2_mark_46 : decode cX2_mark 46 = .ok (.getfield 15, 3) := by decide +kernel
theorem dX2_mark_49 : decode cX2_mark 49 = .ok (.iload_n 3, 1) := by decide +kernel
theorem dX2_mark_50 : decode cX2_mark 50 = .ok (.ifCond .eq 7, 3) := by decide +kernel
theorem dX2_mark_53 : decode cX2_mark 53 = .ok (.iconst (-1), 1) := by decide +kernel
theorem dX2_mark_54 : decode cX2_mark 54 = .ok (.goto 4, 3) := by decide +kernel
theorem dX2_mark_57 : decode cX2_mark 57 = .ok (.iconst 1, 1) := by decide +kernel
theorem dX2_mark_58 : decode cX2_mark 58 = .ok (.iadd, 1) := by decide +kernel
theorem dX2_mark_59 : decode cX2_mark 59 = .ok (.putfield 15, 3) := by decide +kernel
theorem dX2_mark_62 : decode cX2_mark 62 = .ok (.iinc 4 1, 3) := by decide +kernel
theorem dX2_mark_65 : decode cX2_mark 65 = .ok (.goto (-48), 3) := by decide +kernel
theorem dX2_mark_68 : decode cX2_mark 68 = .ok (.return_, 1) := by decide +kernel
set_option maxRecDepth 20000 in
theorem ggX2_find_X2_areFree : GoodIn wsX2_find wsX2_areFree := goodIn_r _ [5, 6, 15, 16] (by decide +kernel) (by decide +kernel)
set_option maxRecDepth 20000 in
theorem gX2_find_X2_areFree : GoodIn wsX2_find (wsV RX2 23 RX2 yX2_areFree wsX2_areFree) := goodIn_app (goodIn_of _ (by decide +kernel)) ggX2_find_X2_areFree
set_option maxRecDepth 20000 in
theorem ggX2_find_X2_firstPiece : GoodIn wsX2_find wsX2_firstPiece := goodIn_r _ [10, 11, 12, 13, 4, 14, 1, 2, 3, 5, 6, 15, 16] (by decide +kernel) (by decide +kernel)
set_option maxRecDepth 20000 in
theorem gX2_find_X2_firstPiece : GoodIn wsX2_find (wsV RX2 27 RX2 yX2_firstPiece wsX2_firstPiece) := goodIn_app (goodIn_of _ (by decide +kernel)) ggX2_find_X2_firstPiece
theorem dX2_find_0 : decode cX2_find 0 = .ok (.iload_n 1, 1) := by decide +kernel
theorem dX2_find_1 : decode cX2_find 1 = .ok (.bipush 32, 2) := by decide +kernel
theorem dX2_find_3 : decode cX2_find 3 = .ok (.idiv, 1) := by decide +kernel
theorem dX2_find_4 : decode cX2_find 4 = .ok (.istore_n 3, 1) := by decide +kernel
theorem dX2_find_5 : decode cX2_find 5 = .ok (.iload_n 1, 1) := by decide +kernel
theorem dX2_find_6 : decode cX2_find 6 = .ok (.bipush 32, 2) := by decide +kernel
theorem dX2_find_8 : decode cX2_find 8 = .ok (.irem, 1) := by decide +kernel
theorem dX2_find_9 : decode cX2_find 9 = .ok (.iload_n 2, 1) := by decide +kernel
theorem dX2_find_10 : decode cX2_find 10 = .ok (.iadd, 1) := by decide +kernel
theorem dX2_find_11 : decode cX2_find 11 = .ok (.bipush 32, 2) := by decide +kernel
theorem dX2_find_13 : decode cX2_find 13 = .ok (.if_icmp .gt 7, 3) := by decide +kernel
theorem dX2_find_16 : decode cX2_find 16 = .ok (.iconst 1, 1) := by decide +kernel
theorem dX2_find_17 : decode cX2_find 17 = .ok (.goto 4, 3) := by decide +kernel
theorem dX2_find_20 : decode cX2_find 20 = .ok (.iconst 0, 1) := by decide +kernel
theorem dX2_find_21 : decode cX2_find 21 = .ok (.istore 4, 2) := by decide +kernel
theorem dX2_find_23 : decode cX2_find 23 = .ok (.iload 4, 2) := by decide +kernel
theorem dX2_find_25 : decode cX2_find 25 = .ok (.ifCond .eq 14, 3) := by decide +kernel
theorem dX2_find_28 : decode cX2_find 28 = .ok (.aload_n 0, 1) := by decide +kernel
theorem dX2_find_29 : decode cX2_find 29 = .ok (.iload_n 1, 1) := by decide +kernel
theorem dX2_find_30 : decode cX2_find 30 = .ok (.iload_n 2, 1) := by decide +kernel
theorem dX2_find_31 : decode cX2_find 31 = .ok (.invokevirtual 23, 3) := by decide +kernel
theorem dX2_find_34 : decode cX2_find 34 = .ok (.ifCond .eq 5, 3) := by decide +kernel
theorem dX2_find_37 : decode cX2_find 37 = .ok (.iload_n 1, 1) := by decide +kernel
theorem dX2_find_38 : decode cX2_find 38 = .ok (.ireturn, 1) := by decide +kernel
theorem dX2_find_39 : decode cX2_find 39 = .ok (.iconst 0, 1) := by decide +kernel
theorem dX2_find_40 : decode cX2_find 40 = .ok (.istore 5, 2) := by decide +kernel
theorem dX2_find_42 : decode cX2_find 42 = .ok (.iload 5, 2) := by decide +kernel
theorem dX2_find_44 : decode cX2_find 44 = .ok (.iconst 4, 1) := by decide +kernel
theorem dX2_find_45 : decode cX2_find 45 = .ok (.if_icmp .ge 31, 3) := by decide +kernel
theorem dX2_find_48 : decode cX2_find 48 = .ok (.aload_n 0, 1) := by decide +kernel
theorem dX2_find_49 : decode cX2_find 49 = .ok (.iload_n 3, 1) := by decide +kernel
theorem dX2_find_50 : decode cX2_find 50 = .ok (.iload 5, 2) := by decide +kernel
theorem dX2_find_52 : decode cX2_find 52 = .ok (.iadd, 1) := by decide +kernel
theorem dX2_find_53 : decode cX2_find 53 = .ok (.iconst 4, 1) := by decide +kernel
theorem dX2_find_54 : decode cX2_find 54 = .ok (.irem, 1) := by decide +kernel
theorem dX2_find_55 : decode cX2_find 55 = .ok (.iload_n 2, 1) := by decide +kernel
theorem dX2_find_56 : decode cX2_find 56 = .ok (.invokevirtual 27, 3) := by decide +kernel
theorem dX2_find_59 : decode cX2_find 59 = .ok (.istore 6, 2) := by decide +kernel
theorem dX2_find_61 : decode cX2_find 61 = .ok (.iload 6, 2) := by decide +kernel
theorem dX2_find_63 : decode cX2_find 63 = .ok (.iconst (-1), 1) := by decide +kernel
theorem dX2_find_64 : decode cX2_find 64 = .ok (.if_icmp .eq 6, 3) := by decide +kernel
theorem dX2_find_67 : decode cX2_find 67 = .ok (.iload 6, 2) := by decide +kernel
theorem dX2_find_69 : decode cX2_find 69 = .ok (.ireturn, 1) := by decide +kernel
theorem dX2_find_70 : decode cX2_find 70 = .ok (.iinc 5 1, 3) := by decide +kernel
theorem dX2_find_73 : decode cX2_find 73 = .ok (.goto (-31), 3) := by decide +kernel
theorem dX2_find_76 : decode cX2_find 76 = .ok (.iconst (-1), 1) := by decide +kernel
theorem dX2_find_77 : decode cX2_find 77 = .ok (.ireturn, 1) := by decide +kernel
set_option maxRecDepth 20000 in
theorem ggX2_firstPiece_X2_isFreePiece : GoodIn wsX2_firstPiece wsX2_isFreePiece := goodIn_r _ [5, 6, 7, 8, 4, 9, 10, 11, 12] (by decide +kernel) (by decide +kernel)
set_option maxRecDepth 20000 in
theorem gX2_firstPiece_X2_isFreePiece : GoodIn wsX2_firstPiece (wsV RX2 31 RX2 yX2_isFreePiece wsX2_isFreePiece) := goodIn_app (goodIn_of _ (by decide +kernel)) ggX2_firstPiece_X2_isFreePiece
theorem dX2_firstPiece_0 : decode cX2_firstPiece 0 = .ok (.iload_n 1, 1) := by decide +kernel
theorem dX2_firstPiece_1 : decode cX2_firstPiece 1 = .ok (.bipush 32, 2) := by decide +kernel
theorem dX2_firstPiece_3 : decode cX2_firstPiece 3 = .ok (.imul, 1) := by decide +kernel
theorem dX2_firstPiece_4 : decode cX2_firstPiece 4 = .ok (.istore_n 3, 1) := by decide +kernel
theorem dX2_firstPiece_5 : decode cX2_firstPiece 5 = .ok (.iload_n 3, 1) := by decide +kernel
theorem dX2_firstPiece_6 : decode cX2_firstPiece 6 = .ok (.istore 4, 2) := by decide +kernel
theorem dX2_firstPiece_8 : decode cX2_firstPiece 8 = .ok (.iload 4, 2) := by decide +kernel
theorem dX2_firstPiece_10 : decode cX2_firstPiece 10 = .ok (.iload_n 3, 1) := by decide +kernel
theorem dX2_firstPiece_11 : decode cX2_firstPiece 11 = .ok (.bipush 32, 2) := by decide +kernel
theorem dX2_firstPiece_13 : decode cX2_firstPiece 13 = .ok (.iadd, 1) := by decide +kernel
theorem dX2_firstPiece_14 : decode cX2_firstPiece 14 = .ok (.if_icmp .ge 22, 3) := by decide +kernel
theorem dX2_firstPiece_17 : decode cX2_firstPiece 17 = .ok (.aload_n 0, 1) := by decide +kernel
theorem dX2_firstPiece_18 : decode cX2_firstPiece 18 = .ok (.iload 4, 2) := by decide +kernel
theorem dX2_firstPiece_20 : decode cX2_firstPiece 20 = .ok (.iload_n 2, 1) := by decide +kernel
theorem dX2_firstPiece_21 : decode cX2_firstPiece 21 = .ok (.invokevirtual 31, 3) := by decide +kernel
theorem dX2_firstPiece_24 : decode cX2_firstPiece 24 = .ok (.ifCond .eq 6, 3) := by decide +kernel
theorem dX2_firstPiece_27 : decode cX2_firstPiece 27 = .ok (.iload 4, 2) := by decide +kernel
theorem dX2_firstPiece_29 : decode cX2_firstPiece 29 = .ok (.ireturn, 1) := by decide +kernel
theorem dX2_firstPiece_30 : decode cX2_firstPiece 30 = .ok (.iinc 4 1, 3) := by decide +kernel
theorem dX2_firstPiece_33 : decode cX2_firstPiece 33 = .ok (.goto (-25), 3) := by decide +kernel
theorem dX2_firstPiece_36 : decode cX2_firstPiece 36 = .ok (.iconst (-1), 1) := by decide +kernel
theorem dX2_firstPiece_37 : decode cX2_firstPiece 37 = .ok (.ireturn, 1) := by decide +kernel
set_option maxRecDepth 20000 in
theorem ggX2_countPieces_X2_isFreePiece : GoodIn wsX2_countPieces wsX2_isFreePiece := goodIn_r _ [5, 6, 7, 8, 4, 9, 10, 11, 12] (by decide +kernel) (by decide +kernel)
set_option maxRecDepth 20000 in
theorem gX2_countPieces_X2_isFreePiece : GoodIn wsX2_countPieces (wsV RX2 31 RX2 yX2_isFreePiece wsX2_isFreePiece) := goodIn_app (goodIn_of _ (by decide +kernel)) ggX2_countPieces_X2_isFreePiece
theorem dX2_countPieces_0 : decode cX2_countPieces 0 = .ok (.iload_n 1, 1) := by decide +kernel
theorem dX2_countPieces_1 : decode cX2_countPieces 1 = .ok (.bipush 32, 2) := by decide +kernel
theorem dX2_countPieces_3 : decode cX2_countPieces 3 = .ok (.imul, 1) := by decide +kernel
theorem dX2_countPieces_4 : decode cX2_countPieces 4 = .ok (.istore_n 3, 1) := by decide +kernel
theorem dX2_countPieces_5 : decode cX2_countPieces 5 = .ok (.iconst 0, 1) := by decide +kernel
theorem dX2_countPieces_6 : decode cX2_countPieces 6 = .ok (.istore 4, 2) := by decide +kernel
theorem dX2_countPieces_8 : decode cX2_countPieces 8 = .ok (.iload_n 3, 1) := by decide +kernel
theorem dX2_countPieces_9 : decode cX2_countPieces 9 = .ok (.istore 5, 2) := by decide +kernel
theorem dX2_countPieces_11 : decode cX2_countPieces 11 = .ok (.iload 5, 2) := by decide +kernel
theorem dX2_countPieces_13 : decode cX2_countPieces 13 = .ok (.iload_n 3, 1) := by decide +kernel
theorem dX2_countPieces_14 : decode cX2_countPieces 14 = .ok (.bipush 32, 2) := by decide +kernel
theorem dX2_countPieces_16 : decode cX2_countPieces 16 = .ok (.iadd, 1) := by decide +kernel
theorem dX2_countPieces_17 : decode cX2_countPieces 17 = .ok (.if_icmp .ge 29, 3) := by decide +kernel
theorem dX2_countPieces_20 : decode cX2_countPieces 20 = .ok (.iload 4, 2) := by decide +kernel
theorem dX2_countPieces_22 : decode cX2_countPieces 22 = .ok (.aload_n 0, 1) := by decide +kernel
theorem dX2_countPieces_23 : decode cX2_countPieces 23 = .ok (.iload 5, 2) := by decide +kernel
theorem dX2_countPieces_25 : decode cX2_countPieces 25 = .ok (.iload_n 2, 1) := by decide +kernel
theorem dX2_countPieces_26 : decode cX2_countPieces 26 = .ok (.invokevirtual 31, 3) := by decide +kernel
theorem dX2_countPieces_29 : decode cX2_countPieces 29 = .ok (.ifCond .eq 7, 3) := by decide +kernel
theorem dX2_countPieces_32 : decode cX2_countPieces 32 = .ok (.iconst 1, 1) := by decide +kernel
theorem dX2_countPieces_33 : decode cX2_countPieces 33 = .ok (.goto 4, 3) := by decide +kernel
theorem dX2_countPieces_36 : decode cX2_countPieces 36 = .ok (.iconst 0, 1) := by decide +kernel
theorem dX2_countPieces_37 : decode cX2_countPieces 37 = .ok (.iadd, 1) := by decide +kernel
theorem dX2_countPieces_38 : decode cX2_countPieces 38 = .ok (.istore 4, 2) := by decide +kernel
theorem dX2_countPieces_40 : decode cX2_countPieces 40 = .ok (.iinc 5 1, 3) := by decide +kernel
theorem dX2_countPieces_43 : decode cX2_countPieces 43 = .ok (.goto (-32), 3) := by decide +kernel
theorem dX2_countPieces_46 : decode cX2_countPieces 46 = .ok (.iload 4, 2) := by decide +kernel
theorem dX2_countPieces_48 : decode cX2_countPieces 48 = .ok (.ireturn, 1) := by decide +kernel
set_option maxRecDepth 20000 in
theorem ggX2_isFreePiece_X2_areFree : GoodIn wsX2_isFreePiece wsX2_areFree := goodIn_r _ [5, 6, 7, 8] (by decide +kernel) (by decide +kernel)
set_option maxRecDepth 20000 in
theorem gX2_isFreePiece_X2_areFree : GoodIn wsX2_isFreePiece (wsV RX2 23 RX2 yX2_areFree wsX2_areFree) := goodIn_app (goodIn_of _ (by decide +kernel)) ggX2_isFreePiece_X2_areFree
theorem dX2_isFreePiece_0 : decode cX2_isFreePiece 0 = .ok (.iload_n 1, 1) := by decide +kernel
theorem dX2_isFreePiece_1 : decode cX2_isFreePiece 1 = .ok (.iload_n 2, 1) := by decide +kernel
theorem dX2_isFreePiece_2 : decode cX2_isFreePiece 2 = .ok (.iconst 1, 1) := by decide +kernel
theorem dX2_isFreePiece_3 : decode cX2_isFreePiece 3 = .ok (.isub, 1) := by decide +kernel
theorem dX2_isFreePiece_4 : decode cX2_isFreePiece 4 = .ok (.iand, 1) := by decide +kernel
theorem dX2_isFreePiece_5 : decode cX2_isFreePiece 5 = .ok (.ifCond .ne 16, 3) := by decide +kernel
theorem dX2_isFreePiece_8 : decode cX2_isFreePiece 8 = .ok (.aload_n 0, 1) := by decide +kernel
theorem dX2_isFreePiece_9 : decode cX2_isFreePiece 9 = .ok (.iload_n 1, 1) := by decide +kernel
theorem dX2_isFreePiece_10 : decode cX2_isFreePiece 10 = .ok (.iload_n 2, 1) := by decide +kernel
theorem dX2_isFreePiece_11 : decode cX2_isFreePiece 11 = .ok (.invokevirtual 23, 3) := by decide +kernel
theorem dX2_isFreePiece_14 : decode cX2_isFreePiece 14 = .ok (.ifCond .eq 7, 3) := by decide +kernel
theorem dX2_isFreePiece_17 : decode cX2_isFreePiece 17 = .ok (.iconst 1, 1) := by decide +kernel
theorem dX2_isFreePiece_18 : decode cX2_isFreePiece 18 = .ok (.goto 4, 3) := by decide +kernel
theorem dX2_isFreePiece_21 : decode cX2_isFreePiece 21 = .ok (.iconst 0, 1) := by decide +kernel
theorem dX2_isFreePiece_22 : decode cX2_isFreePiece 22 = .ok (.ireturn, 1) := by decide +kernel
theorem dX3_init_0 : decode cX3_init 0 = .ok (.aload_n 0, 1) := by decide +kernel
theorem dX3_init_1 : decode cX3_init 1 = .ok (.invokespecial 3, 3) := by decide +kernel
theorem dX3_init_4 : decode cX3_init 4 = .ok (.aload_n 0, 1) := by decide +kernel
theorem dX3_init_5 : decode cX3_init 5 = .ok (.iconst 4, 1) := by decide +kernel
theorem dX3_init_6 : decode cX3_init 6 = .ok (.newarray .int, 2) := by decide +kernel
theorem dX3_init_8 : decode cX3_init 8 = .ok (.putfield 9, 3) := by decide +kernel
theorem dX3_init_11 : decode cX3_init 11 = .ok (.aload_n 0, 1) := by decide +kernel
theorem dX3_init_12 : decode cX3_init 12 = .ok (.iconst 4, 1) := by decide +kernel
theorem dX3_init_13 : decode cX3_init 13 = .ok (.newarray .int, 2) := by decide +kernel
theorem dX3_init_15 : decode cX3_init 15 = .ok (.putfield 15, 3) := by decide +kernel
theorem dX3_init_18 : decode cX3_init 18 = .ok (.aload_n 0, 1) := by decide +kernel
theorem dX3_init_19 : decode cX3_init 19 = .ok (.iconst 0, 1) := by decide +kernel
theorem dX3_init_20 : decode cX3_init 20 = .ok (.putfield 18, 3) := by decide +kernel
theorem dX3_init_23 : decode cX3_init 23 = .ok (.aload_n 0, 1) := by decide +kernel
theorem dX3_init_24 : decode cX3_init 24 = .ok (.aconst_null, 1) := by decide +kernel
theorem dX3_init_25 : decode cX3_init 25 = .ok (.putfield 22, 3) := by decide +kernel
theorem dX3_init_28 : decode cX3_init 28 = .ok (.aload_n 0, 1) := by decide +kernel
theorem dX3_init_29 : decode cX3_init 29 = .ok (.aconst_null, 1) := by decide +kernel
theorem dX3_init_30 : decode cX3_init 30 = .ok (.putfield 26, 3) := by decide +kernel
theorem dX3_init_33 : decode cX3_init 33 = .ok (.aload_n 0, 1) := by decide +kernel
theorem dX3_init_34 : decode cX3_init 34 = .ok (.iload_n 1, 1) := by decide +kernel
theorem dX3_init_35 : decode cX3_init 35 = .ok (.putfield 29, 3) := by decide +kernel
theorem dX3_init_38 : decode cX3_init 38 = .ok (.aload_n 0, 1) := by decide +kernel
theorem dX3_init_39 : decode cX3_init 39 = .ok (.iload_n 2, 1) := by decide +kernel
theorem dX3_init_40 : decode cX3_init 40 = .ok (.putfield 32, 3) := by decide +kernel
theorem dX3_init_43 : decode cX3_init 43 = .ok (.return_, 1) := by decide +kernel
theorem dX3_continues_0 : decode cX3_continues 0 = .ok (.aload_n 0, 1) := by decide +kernel
theorem dX3_continues_1 : decode cX3_continues 1 = .ok (.getfield 32, 3) := by decide +kernel
theorem dX3_continues_4 : decode cX3_continues 4 = .ok (.ifCond .eq 15, 3) := by decide +kernel
theorem dX3_continues_7 : decode cX3_continues 7 = .ok (.aload_n 0, 1) := by decide +kernel
theorem dX3_continues_8 : decode cX3_continues 8 = .ok (.getfield 29, 3) := by decide +kernel
theorem dX3_continues_11 : decode cX3_continues 11 = .ok (.iload_n 1, 1) := by decide +kernel
theorem dX3_continues_12 : decode cX3_continues 12 = .ok (.if_icmp .ne 7, 3) := by decide +kernel
theorem dX3_continues_15 : decode cX3_continues 15 = .ok (.iconst 1, 1) := by decide +kernel
theorem dX3_continues_16 : decode cX3_continues 16 = .ok (.goto 4, 3) := by decide +kernel
theorem dX3_continues_19 : decode cX3_continues 19 = .ok (.iconst 0, 1) := by decide +kernel
theorem dX3_continues_20 : decode cX3_continues 20 = .ok (.ireturn, 1) := by decide +kernel
theorem dX3_indexOf_0 : decode cX3_indexOf 0 = .ok (.iconst 0, 1) := by decide +kernel
theorem dX3_indexOf_1 : decode cX3_indexOf 1 = .ok (.istore_n 2, 1) := by decide +kernel
theorem dX3_indexOf_2 : decode cX3_indexOf 2 = .ok (.iload_n 2, 1) := by decide +kernel
theorem dX3_indexOf_3 : decode cX3_indexOf 3 = .ok (.aload_n 0, 1) := by decide +kernel
theorem dX3_indexOf_4 : decode cX3_indexOf 4 = .ok (.getfield 18, 3) := by decide +kernel
theorem dX3_indexOf_7 : decode cX3_indexOf 7 = .ok (.if_icmp .ge 26, 3) := by decide +kernel
theorem dX3_indexOf_10 : decode cX3_indexOf 10 = .ok (.iload_n 2, 1) := by decide +kernel
theorem dX3_indexOf_11 : decode cX3_indexOf 11 = .ok (.iconst 4, 1) := by decide +kernel
theorem dX3_indexOf_12 : decode cX3_indexOf 12 = .ok (.if_icmp .ge 21, 3) := by decide +kernel
theorem dX3_indexOf_15 : decode cX3_indexOf 15 = .ok (.aload_n 0, 1) := by decide +kernel
theorem dX3_indexOf_16 : decode cX3_indexOf 16 = .ok (.getfield 9, 3) := by decide +kernel
theorem dX3_indexOf_19 : decode cX3_indexOf 19 = .ok (.iload_n 2, 1) := by decide +kernel
theorem dX3_indexOf_20 : decode cX3_indexOf 20 = .ok (.iaload, 1) := by decide +kernel
theorem dX3_indexOf_21 : decode cX3_indexOf 21 = .ok (.iload_n 1, 1) := by decide +kernel
theorem dX3_indexOf_22 : decode cX3_indexOf 22 = .ok (.if_icmp .ne 5, 3) := by decide +kernel
theorem dX3_indexOf_25 : decode cX3_indexOf 25 = .ok (.iload_n 2, 1) := by decide +kernel
theorem dX3_indexOf_26 : decode cX3_indexOf 26 = .ok (.ireturn, 1) := by decide +kernel
theorem dX3_indexOf_27 : decode cX3_indexOf 27 = .ok (.iinc 2 1, 3) := by decide +kernel
theorem dX3_indexOf_30 : decode cX3_indexOf 30 = .ok (.goto (-28), 3) := by decide +kernel
theorem dX3_indexOf_33 : decode cX3_indexOf 33 = .ok (.iconst (-1), 1) := by decide +kernel
theorem dX3_indexOf_34 : decode cX3_indexOf 34 = .ok (.ireturn, 1) := by decide +kernel
set_option maxRecDepth 20000 in
theorem ggX3_has_X3_indexOf : GoodIn wsX3_has wsX3_indexOf := goodIn_r _ [5, 6, 7, 8, 9, 10, 11, 12, 13, 14] (by decide +kernel) (by decide +kernel)
set_option maxRecDepth 20000 in
theorem gX3_has_X3_indexOf : GoodIn wsX3_has (wsV RX3 36 RX3 yX3_indexOf wsX3_indexOf) := goodIn_app (goodIn_of _ (by decide +kernel)) ggX3_has_X3_indexOf
theorem dX3_has_0 : decode cX3_has 0 = .ok (.aload_n 0, 1) := by decide +kernel
theorem dX3_has_1 : decode cX3_has 1 = .ok (.iload_n 1, 1) := by decide +kernel
theorem dX3_has_2 : decode cX3_has 2 = .ok (.invokevirtual 36, 3) := by decide +kernel
theorem dX3_has_5 : decode cX3_has 5 = .ok (.iconst (-1), 1) := by decide +kernel
theorem dX3_has_6 : decode cX3_has 6 = .ok (.if_icmp .eq 7, 3) := by decide +kernel
theorem dX3_has_9 : decode cX3_has 9 = .ok (.iconst 1, 1) := by decide +kernel
theorem dX3_has_10 : decode cX3_has 10 = .ok (.goto 4, 3) := by decide +kernel
theorem dX3_has_13 : decode cX3_has 13 = .ok (.iconst 0, 1) := by decide +kernel
theorem dX3_has_14 : decode cX3_has 14 = .ok (.ireturn, 1) := by decide +kernel
set_option maxRecDepth 20000 in
theorem ggX3_fileWith_X3_indexOf : GoodIn wsX3_fileWith wsX3_indexOf := goodIn_r _ [6, 7, 8, 9, 10, 11, 12, 13, 14, 15] (by decide +kernel) (by decide +kernel)
set_option maxRecDepth 20000 in
theorem gX3_fileWith_X3_indexOf : GoodIn wsX3_fileWith (wsV RX3 36 RX3 yX3_indexOf wsX3_indexOf) := goodIn_app (goodIn_of _ (by decide +kernel)) ggX3_fileWith_X3_indexOf
theorem dX3_fileWith_0 : decode cX3_fileWith 0 = .ok (.aload_n 0, 1) := by decide +kernel
theorem dX3_fileWith_1 : decode cX3_fileWith 1 = .ok (.iload_n 1, 1) := by decide +kernel
theorem dX3_fileWith_2 : decode cX3_fileWith 2 = .ok (.invokevirtual 36, 3) := by decide +kernel
theorem dX3_fileWith_5 : decode cX3_fileWith 5 = .ok (.istore_n 2, 1) := by decide +kernel
theorem dX3_fileWith_6 : decode cX3_fileWith 6 = .ok (.iload_n 2, 1) := by decide +kernel
theorem dX3_fileWith_7 : decode cX3_fileWith 7 = .ok (.ifCond .ge 7, 3) := by decide +kernel
theorem dX3_fileWith_10 : decode cX3_fileWith 10 = .ok (.iconst (-1), 1) := by decide +kernel
theorem dX3_fileWith_11 : decode cX3_fileWith 11 = .ok (.goto 9, 3) := by decide +kernel
theorem dX3_fileWith_14 : decode cX3_fileWith 14 = .ok (.aload_n 0, 1) := by decide +kernel
theorem dX3_fileWith_15 : decode cX3_fileWith 15 = .ok (.getfield 15, 3) := by decide +kernel
theorem dX3_fileWith_18 : decode cX3_fileWith 18 = .ok (.iload_n 2, 1) := by decide +kernel
theorem dX3_fileWith_19 : decode cX3_fileWith 19 = .ok (.iaload, 1) := by decide +kernel
theorem dX3_fileWith_20 : decode cX3_fileWith 20 = .ok (.ireturn, 1) := by decide +kernel
set_option maxRecDepth 20000 in
theorem ggX3_insert_X3_rankOf : GoodIn wsX3_insert wsX3_rankOf := goodIn_r _ [7, 8, 9, 10] (by decide +kernel) (by decide +kernel)
set_option maxRecDepth 20000 in
theorem gX3_insert_X3_rankOf : GoodIn wsX3_insert (va_wsS RX3 40 yX3_rankOf wsX3_rankOf) := goodIn_app (goodIn_of _ (by decide +kernel)) ggX3_insert_X3_rankOf
theorem dX3_insert_0 : decode cX3_insert 0 = .ok (.aload_n 0, 1) := by decide +kernel
theorem dX3_insert_1 : decode cX3_insert 1 = .ok (.getfield 18, 3) := by decide +kernel
theorem dX3_insert_4 : decode cX3_insert 4 = .ok (.iconst 4, 1) := by decide +kernel
theorem dX3_insert_5 : decode cX3_insert 5 = .ok (.if_icmp .lt 4, 3) := by decide +kernel
theorem dX3_insert_8 : decode cX3_insert 8 = .ok (.return_, 1) := by decide +kernel
theorem dX3_insert_9 : decode cX3_insert 9 = .ok (.aload_n 0, 1) := by decide +kernel
theorem dX3_insert_10 : decode cX3_insert 10 = .ok (.getfield 18, 3) := by decide +kernel
theorem dX3_insert_13 : decode cX3_insert 13 = .ok (.istore_n 3, 1) := by decide +kernel
theorem dX3_insert_14 : decode cX3_insert 14 = .ok (.iload_n 3, 1) := by decide +kernel
theorem dX3_insert_15 : decode cX3_insert 15 = .ok (.ifCond .le 55, 3) := by decide +kernel
theorem dX3_insert_18 : decode cX3_insert 18 = .ok (.aload_n 0, 1) := by decide +kernel
theorem dX3_insert_19 : decode cX3_insert 19 = .ok (.getfield 9, 3) := by decide +kernel
theorem dX3_insert_22 : decode cX3_insert 22 = .ok (.iload_n 3, 1) := by decide +kernel
theorem dX3_insert_23 : decode cX3_insert 23 = .ok (.iconst 1, 1) := by decide +kernel
theorem dX3_insert_24 : decode cX3_insert 24 = .ok (.isub, 1) := by decide +kernel
theorem dX3_insert_25 : decode cX3_insert 25 = .ok (.iaload, 1) := by decide +kernel
theorem dX3_insert_26 : decode cX3_insert 26 = .ok (.invokestatic 40, 3) := by decide +kernel
theorem dX3_insert_29 : decode cX3_insert 29 = .ok (.iload_n 1, 1) := by decide +kernel
theorem dX3_insert_30 : decode cX3_insert 30 = .ok (.invokestatic 40, 3) := by decide +kernel
theorem dX3_insert_33 : decode cX3_insert 33 = .ok (.if_icmp .le 37, 3) := by decide +kernel
theorem dX3_insert_36 : decode cX3_insert 36 = .ok (.aload_n 0, 1) := by decide +kernel
theorem dX3_insert_37 : decode cX3_insert 37 = .ok (.getfield 9, 3) := by decide +kernel
theorem dX3_insert_40 : decode cX3_insert 40 = .ok (.iload_n 3, 1) := by decide +kernel
theorem dX3_insert_41 : decode cX3_insert 41 = .ok (.aload_n 0, 1) := by decide +kernel
theorem dX3_insert_42 : decode cX3_insert 42 = .ok (.getfield 9, 3) := by decide +kernel
theorem dX3_insert_45 : decode cX3_insert 45 = .ok (.iload_n 3, 1) := by decide +kernel
theorem dX3_insert_46 : decode cX3_insert 46 = .ok (.iconst 1, 1) := by decide +kernel
theorem dX3_insert_47 : decode cX3_insert 47 = .ok (.isub, 1) := by decide +kernel
theorem dX3_insert_48 : decode cX3_insert 48 = .ok (.iaload, 1) := by decide +kernel
theorem dX3_insert_49 : decode cX3_insert 49 = .ok (.iastore, 1) := by decide +kernel
theorem dX3_insert_50 : decode cX3_insert 50 = .ok (.aload_n 0, 1) := by decide +kernel
theorem dX3_insert_51 : decode cX3_insert 51 = .ok (.getfield 15, 3) := by decide +kernel
theorem dX3_insert_54 : decode cX3_insert 54 = .ok (.iload_n 3, 1) := by decide +kernel
theorem dX3_insert_55 : decode cX3_insert 55 = .ok (.aload_n 0, 1) := by decide +kernel
theorem dX3_insert_56 : decode cX3_insert 56 = .ok (.getfield 15, 3) := by decide +kernel
theorem dX3_insert_59 : decode cX3_insert 59 = .ok (.iload_n 3, 1) := by decide +kernel
theorem dX3_insert_60 : decode cX3_insert 60 = .ok (.iconst 1, 1) := by decide +kernel
theorem dX3_insert_61 : decode cX3_insert 61 = .ok (.isub, 1) := by decide +kernel
theorem dX3_insert_62 : decode cX3_insert 62 = .ok (.iaload, 1) := by decide +kernel
theorem dX3_insert_63 : decode cX3_insert 63 = .ok (.iastore, 1) := by decide +kernel
theorem dX3_insert_64 : decode cX3_insert 64 = .ok (.iinc 3 (-1), 3) := by decide +kernel
theorem dX3_insert_67 : decode cX3_insert 67 = .ok (.goto (-53), 3) := by decide +kernel
theorem dX3_insert_70 : decode cX3_insert 70 = .ok (.aload_n 0, 1) := by decide +kernel
theorem dX3_insert_71 : decode cX3_insert 71 = .ok (.getfield 9, 3) := by decide +kernel
theorem dX3_insert_74 : decode cX3_insert 74 = .ok (.iload_n 3, 1) := by decide +kernel
theorem dX3_insert_75 : decode cX3_insert 75 = .ok (.iload_n 1, 1) := by decide +kernel
theorem dX3_insert_76 : decode cX3_insert 76 = .ok (.iastore, 1) := by decide +kernel
theorem dX3_insert_77 : decode cX3_insert 77 = .ok (.aload_n 0, 1) := by decide +kernel
theorem dX3_insert_78 : decode cX3_insert 78 = .ok (.getfield 15, 3) := by decide +kernel
theorem dX3_insert_81 : decode cX3_insert 81 = .ok (.iload_n 3, 1) := by decide +kernel
theorem dX3_insert_82 : decode cX3_insert 82 = .ok (.iload_n 2, 1) := by decide +kernel
theorem dX3_insert_83 : decode cX3_insert 83 = .ok (.iastore, 1) := by decide +kernel
theorem dX3_insert_84 : decode cX3_insert 84 = .ok (.aload_n 0, 1) := by decide +kernel
theorem dX3_insert_85 : decode cX3_insert 85 = .ok (.dup, 1) := by decide +kernel
theorem dX3_insert_86 : decode cX3_insert 86 = .ok (.getfield 18, 3) := by decide +kernel
theorem dX3_insert_89 : decode cX3_insert 89 = .ok (.iconst 1, 1) := by decide +kernel
theorem dX3_insert_90 : decode cX3_insert 90 = .ok (.iadd, 1) := by decide +kernel
theorem dX3_insert_91 : decode cX3_insert 91 = .ok (.putfield 18, 3) := by decide +kernel
theorem dX3_insert_94 : decode cX3_insert 94 = .ok (.return_, 1) := by decide +kernel
set_option maxRecDepth 20000 in
theorem ggX3_rankOf_X4_hashOf : GoodIn wsX3_rankOf wsX4_hashOf := goodIn_r _ [3] (by decide +kernel) (by decide +kernel)
set_option maxRecDepth 20000 in
theorem gX3_rankOf_X4_hashOf_n43 : GoodIn wsX3_rankOf (wsX4_hashOf) := ggX3_rankOf_X4_hashOf
theorem dX3_rankOf_0 : decode cX3_rankOf 0 = .ok (.iload_n 0, 1) := by decide +kernel
theorem dX3_rankOf_1 : decode cX3_rankOf 1 = .ok (.invokestatic 43, 3) := by decide +kernel
theorem dX3_rankOf_4 : decode cX3_rankOf 4 = .ok (.sipush 1000, 3) := by decide +kernel
theorem dX3_rankOf_7 : decode cX3_rankOf 7 = .ok (.imul, 1) := by decide +kernel
theorem dX3_rankOf_8 : decode cX3_rankOf 8 = .ok (.iload_n 0, 1) := by decide +kernel
theorem dX3_rankOf_9 : decode cX3_rankOf 9 = .ok (.iadd, 1) := by decide +kernel
theorem dX3_rankOf_10 : decode cX3_rankOf 10 = .ok (.ireturn, 1) := by decide +kernel
set_option maxRecDepth 20000 in
theorem ggX3_takeOut_X3_indexOf : GoodIn wsX3_takeOut wsX3_indexOf := goodIn_r _ [8, 1, 2, 9, 10, 11, 12, 13, 14, 15] (by decide +kernel) (by decide +kernel)
set_option maxRecDepth 20000 in
theorem gX3_takeOut_X3_indexOf : GoodIn wsX3_takeOut (wsV RX3 36 RX3 yX3_indexOf wsX3_indexOf) := goodIn_app (goodIn_of _ (by decide +kernel)) ggX3_takeOut_X3_indexOf
theorem dX3_takeOut_0 : decode cX3_takeOut 0 = .ok (.aload_n 0, 1) := by decide +kernel
theorem dX3_takeOut_1 : decode cX3_takeOut 1 = .ok (.iload_n 1, 1) := by decide +kernel
theorem dX3_takeOut_2 : decode cX3_takeOut 2 = .ok (.invokevirtual 36, 3) := by decide +kernel
theorem dX3_takeOut_5 : decode cX3_takeOut 5 = .ok (.istore_n 2, 1) := by decide +kernel
theorem dX3_takeOut_6 : decode cX3_takeOut 6 = .ok (.iload_n 2, 1) := by decide +kernel
theorem dX3_takeOut_7 : decode cX3_takeOut 7 = .ok (.ifCond .ge 4, 3) := by decide +kernel
theorem dX3_takeOut_10 : decode cX3_takeOut 10 = .ok (.return_, 1) := by decide +kernel
theorem dX3_takeOut_11 : decode cX3_takeOut 11 = .ok (.aload_n 0, 1) := by decide +kernel
theorem dX3_takeOut_12 : decode cX3_takeOut 12 = .ok (.dup, 1) := by decide +kernel
theorem dX3_takeOut_13 : decode cX3_takeOut 13 = .ok (.getfield 18, 3) := by decide +kernel
theorem dX3_takeOut_16 : decode cX3_takeOut 16 = .ok (.iconst 1, 1) := by decide +kernel
theorem dX3_takeOut_17 : decode cX3_takeOut 17 = .ok (.isub, 1) := by decide +kernel
theorem dX3_takeOut_18 : decode cX3_takeOut 18 = .ok (.putfield 18, 3) := by decide +kernel
theorem dX3_takeOut_21 : decode cX3_takeOut 21 = .ok (.iload_n 2, 1) := by decide +kernel
theorem dX3_takeOut_22 : decode cX3_takeOut 22 = .ok (.istore_n 3, 1) := by decide +kernel
theorem dX3_takeOut_23 : decode cX3_takeOut 23 = .ok (.iload_n 3, 1) := by decide +kernel
theorem dX3_takeOut_24 : decode cX3_takeOut 24 = .ok (.aload_n 0, 1) := by decide +kernel
theorem dX3_takeOut_25 : decode cX3_takeOut 25 = .ok (.getfield 18, 3) := by decide +kernel
theorem dX3_takeOut_28 : decode cX3_takeOut 28 = .ok (.if_icmp .ge 37, 3) := by decide +kernel
theorem dX3_takeOut_31 : decode cX3_takeOut 31 = .ok (.aload_n 0, 1) := by decide +kernel
theorem dX3_takeOut_32 : decode cX3_takeOut 32 = .ok (.getfield 9, 3) := by decide +kernel
theorem dX3_takeOut_35 : decode cX3_takeOut 35 = .ok (.iload_n 3, 1) := by decide +kernel
theorem dX3_takeOut_36 : decode cX3_takeOut 36 = .ok (.aload_n 0, 1) := by decide +kernel
theorem dX3_takeOut_37 : decode cX3_takeOut 37 = .ok (.getfield 9, 3) := by decide +kernel
theorem dX3_takeOut_40 : decode cX3_takeOut 40 = .ok (.iload_n 3, 1) := by decide +kernel
theorem dX3_takeOut_41 : decode cX3_takeOut 41 = .ok (.iconst 1, 1) := by decide +kernel
theorem dX3_takeOut_42 : decode cX3_takeOut 42 = .ok (.iadd, 1) := by decide +kernel
theorem dX3_takeOut_43 : decode cX3_takeOut 43 = .ok (.iaload, 1) := by decide +kernel
theorem dX3_takeOut_44 : decode cX3_takeOut 44 = .ok (.iastore, 1) := by decide +kernel
theorem dX3_takeOut_45 : decode cX3_takeOut 45 = .ok (.aload_n 0, 1) := by decide +kernel
theorem dX3_takeOut_46 : decode cX3_takeOut 46 = .ok (.getfield 15, 3) := by decide +kernel
theorem dX3_takeOut_49 : decode cX3_takeOut 49 = .ok (.iload_n 3, 1) := by decide +kernel
theorem dX3_takeOut_50 : decode cX3_takeOut 50 = .ok (.aload_n 0, 1) := by decide +kernel
theorem dX3_takeOut_51 : decode cX3_takeOut 51 = .ok (.getfield 15, 3) := by decide +kernel
theorem dX3_takeOut_54 : decode cX3_takeOut 54 = .ok (.iload_n 3, 1) := by decide +kernel
theorem dX3_takeOut_55 : decode cX3_takeOut 55 = .ok (.iconst 1, 1) := by decide +kernel
theorem dX3_takeOut_56 : decode cX3_takeOut 56 = .ok (.iadd, 1) := by decide +kernel
theorem dX3_takeOut_57 : decode cX3_takeOut 57 = .ok (.iaload, 1) := by decide +kernel
theorem dX3_takeOut_58 : decode cX3_takeOut 58 = .ok (.iastore, 1) := by decide +kernel
theorem dX3_takeOut_59 : decode cX3_takeOut 59 = .ok (.iinc 3 1, 3) := by decide +kernel
theorem dX3_takeOut_62 : decode cX3_takeOut 62 = .ok (.goto (-39), 3) := by decide +kernel
theorem dX3_takeOut_65 : decode cX3_takeOut 65 = .ok (.return_, 1) := by decide +kernel
set_option maxRecDepth 20000 in
theorem ggX3_split_X4_hashOf : GoodIn wsX3_split wsX4_hashOf := goodIn_r _ [9] (by decide +kernel) (by decide +kernel)
set_option maxRecDepth 20000 in
theorem gX3_split_X4_hashOf_n43 : GoodIn wsX3_split (wsX4_hashOf) := ggX3_split_X4_hashOf
set_option maxRecDepth 20000 in
theorem ggX3_split_X3_init : GoodIn wsX3_split wsX3_init := goodIn_r _ [12, 13, 14, 15, 16, 1, 6, 5, 17, 18, 19, 20, 32, 33, 34, 35, 36, 37, 38] (by decide +kernel) (by decide +kernel)
set_option maxRecDepth 20000 in
theorem gX3_split_X3_init : GoodIn wsX3_split (wsX3_init) := ggX3_split_X3_init
set_option maxRecDepth 20000 in
theorem ggX3_split_X3_insert : GoodIn wsX3_split wsX3_insert := goodIn_r _ [24, 5, 1, 6, 25, 26, 4, 27, 7, 8, 9, 32, 33, 34, 35, 36, 37, 38] (by decide +kernel) (by decide +kernel)
set_option maxRecDepth 20000 in
theorem gX3_split_X3_insert : GoodIn wsX3_split (wsV RX3 49 RX3 yX3_insert wsX3_insert) := goodIn_app (goodIn_of _ (by decide +kernel)) ggX3_split_X3_insert
set_option maxRecDepth 20000 in
theorem ggX3_split_X3_linkBehind : GoodIn wsX3_split wsX3_linkBehind := goodIn_r _ [31, 17, 18, 32, 33, 34, 35, 36, 37, 38] (by decide +kernel) (by decide +kernel)
set_option maxRecDepth 20000 in
theorem gX3_split_X3_linkBehind : GoodIn wsX3_split (wsV RX3 53 RX3 yX3_linkBehind wsX3_linkBehind) := goodIn_app (goodIn_of _ (by decide +kernel)) ggX3_split_X3_linkBehind
theorem dX3_split_0 : decode cX3_split 0 = .ok (.aload_n 0, 1) := by decide +kernel
theorem dX3_split_1 : decode cX3_split 1 = .ok (.getfield 9, 3) := by decide +kernel
theorem dX3_split_4 : decode cX3_split 4 = .ok (.iconst 2, 1) := by decide +kernel
theorem dX3_split_5 : decode cX3_split 5 = .ok (.iaload, 1) := by decide +kernel
theorem dX3_split_6 : decode cX3_split 6 = .ok (.invokestatic 43, 3) := by decide +kernel
theorem dX3_split_9 : decode cX3_split 9 = .ok (.istore_n 1, 1) := by decide +kernel
theorem dX3_split_10 : decode cX3_split 10 = .ok (.iload_n 1, 1) := by decide +kernel
theorem dX3_split_11 : decode cX3_split 11 = .ok (.aload_n 0, 1) := by decide +kernel
theorem dX3_split_12 : decode cX3_split 12 = .ok (.getfield 9, 3) := by decide +kernel
theorem dX3_split_15 : decode cX3_split 15 = .ok (.iconst 1, 1) := by decide +kernel
theorem dX3_split_16 : decode cX3_split 16 = .ok (.iaload, 1) := by decide +kernel
theorem dX3_split_17 : decode cX3_split 17 = .ok (.invokestatic 43, 3) := by decide +kernel
theorem dX3_split_20 : decode cX3_split 20 = .ok (.if_icmp .ne 7, 3) := by decide +kernel
theorem dX3_split_23 : decode cX3_split 23 = .ok (.iconst 1, 1) := by decide +kernel
theorem dX3_split_24 : decode cX3_split 24 = .ok (.goto 4, 3) := by decide +kernel
theorem dX3_split_27 : decode cX3_split 27 = .ok (.iconst 0, 1) := by decide +kernel
theorem dX3_split_28 : decode cX3_split 28 = .ok (.istore_n 2, 1) := by decide +kernel
theorem dX3_split_29 : decode cX3_split 29 = .ok (.new 10, 3) := by decide +kernel
theorem dX3_split_32 : decode cX3_split 32 = .ok (.dup, 1) := by decide +kernel
theorem dX3_split_33 : decode cX3_split 33 = .ok (.iload_n 1, 1) := by decide +kernel
theorem dX3_split_34 : decode cX3_split 34 = .ok (.iload_n 2, 1) := by decide +kernel
theorem dX3_split_35 : decode cX3_split 35 = .ok (.invokespecial 46, 3) := by decide +kernel
theorem dX3_split_38 : decode cX3_split 38 = .ok (.astore_n 3, 1) := by decide +kernel
theorem dX3_split_39 : decode cX3_split 39 = .ok (.iconst 2, 1) := by decide +kernel
theorem dX3_split_40 : decode cX3_split 40 = .ok (.istore 4, 2) := by decide +kernel
theorem dX3_split_42 : decode cX3_split 42 = .ok (.iload 4, 2) := by decide +kernel
theorem dX3_split_44 : decode cX3_split 44 = .ok (.aload_n 0, 1) := by decide +kernel
theorem dX3_split_45 : decode cX3_split 45 = .ok (.getfield 18, 3) := by decide +kernel
theorem dX3_split_48 : decode cX3_split 48 = .ok (.if_icmp .ge 33, 3) := by decide +kernel
theorem dX3_split_51 : decode cX3_split 51 = .ok (.iload 4, 2) := by decide +kernel
theorem dX3_split_53 : decode cX3_split 53 = .ok (.iconst 4, 1) := by decide +kernel
theorem dX3_split_54 : decode cX3_split 54 = .ok (.if_icmp .ge 27, 3) := by decide +kernel
theorem dX3_split_57 : decode cX3_split 57 = .ok (.aload_n 3, 1) := by decide +kernel
theorem dX3_split_58 : decode cX3_split 58 = .ok (.aload_n 0, 1) := by decide +kernel
theorem dX3_split_59 : decode cX3_split 59 = .ok (.getfield 9, 3) := by decide +kernel
theorem dX3_split_62 : decode cX3_split 62 = .ok (.iload 4, 2) := by decide +kernel
theorem dX3_split_64 : decode cX3_split 64 = .ok (.iaload, 1) := by decide +kernel
theorem dX3_split_65 : decode cX3_split 65 = .ok (.aload_n 0, 1) := by decide +kernel
theorem dX3_split_66 : decode cX3_split 66 = .ok (.getfield 15, 3) := by decide +kernel
theorem dX3_split_69 : decode cX3_split 69 = .ok (.iload 4, 2) := by decide +kernel
theorem dX3_split_71 : decode cX3_split 71 = .ok (.iaload, 1) := by decide +kernel
theorem dX3_split_72 : decode cX3_split 72 = .ok (.invokevirtual 49, 3) := by decide +kernel
theorem dX3_split_75 : decode cX3_split 75 = .ok (.iinc 4 1, 3) := by decide +kernel
theorem dX3_split_78 : decode cX3_split 78 = .ok (.goto (-36), 3) := by decide +kernel
theorem dX3_split_81 : decode cX3_split 81 = .ok (.aload_n 0, 1) := by decide +kernel
theorem dX3_split_82 : decode cX3_split 82 = .ok (.iconst 2, 1) := by decide +kernel
theorem dX3_split_83 : decode cX3_split 83 = .ok (.putfield 18, 3) := by decide +kernel
theorem dX3_split_86 : decode cX3_split 86 = .ok (.aload_n 0, 1) := by decide +kernel
theorem dX3_split_87 : decode cX3_split 87 = .ok (.aload_n 3, 1) := by decide +kernel
theorem dX3_split_88 : decode cX3_split 88 = .ok (.invokevirtual 53, 3) := by decide +kernel
theorem dX3_split_91 : decode cX3_split 91 = .ok (.return_, 1) := by decide +kernel
theorem dX3_linkBehind_0 : decode cX3_linkBehind 0 = .ok (.aload_n 1, 1) := by decide +kernel
theorem dX3_linkBehind_1 : decode cX3_linkBehind 1 = .ok (.aload_n 0, 1) := by decide +kernel
theorem dX3_linkBehind_2 : decode cX3_linkBehind 2 = .ok (.putfield 22, 3) := by decide +kernel
theorem dX3_linkBehind_5 : decode cX3_linkBehind 5 = .ok (.aload_n 1, 1) := by decide +kernel
theorem dX3_linkBehind_6 : decode cX3_linkBehind 6 = .ok (.aload_n 0, 1) := by decide +kernel
theorem dX3_linkBehind_7 : decode cX3_linkBehind 7 = .ok (.getfield 26, 3) := by decide +kernel
theorem dX3_linkBehind_10 : decode cX3_linkBehind 10 = .ok (.putfield 26, 3) := by decide +kernel
theorem dX3_linkBehind_13 : decode cX3_linkBehind 13 = .ok (.aload_n 0, 1) := by decide +kernel
theorem dX3_linkBehind_14 : decode cX3_linkBehind 14 = .ok (.getfield 26, 3) := by decide +kernel
theorem dX3_linkBehind_17 : decode cX3_linkBehind 17 = .ok (.ifnull 11, 3) := by decide +kernel
theorem dX3_linkBehind_20 : decode cX3_linkBehind 20 = .ok (.aload_n 0, 1) := by decide +kernel
theorem dX3_linkBehind_21 : decode cX3_linkBehind 21 = .ok (.getfield 26, 3) := by decide +kernel
theorem dX3_linkBehind_24 : decode cX3_linkBehind 24 = .ok (.aload_n 1, 1) := by decide +kernel
theorem dX3_linkBehind_25 : decode cX3_linkBehind 25 = .ok (.putfield 22, 3) := by decide +kernel
theorem dX3_linkBehind_28 : decode cX3_linkBehind 28 = .ok (.aload_n 0, 1) := by decide +kernel
theorem dX3_linkBehind_29 : decode cX3_linkBehind 29 = .ok (.aload_n 1, 1) := by decide +kernel
theorem dX3_linkBehind_30 : decode cX3_linkBehind 30 = .ok (.putfield 26, 3) := by decide +kernel
theorem dX3_linkBehind_33 : decode cX3_linkBehind 33 = .ok (.return_, 1) := by decide +kernel
