theorem dX0_init_0 : decode cX0_init 0 = .ok (.aload_n 0, 1) := by decide +kernel
theorem dX0_init_1 : decode cX0_init 1 = .ok (.invokespecial 1, 3) := by decide +kernel
theorem dX0_init_4 : decode cX0_init 4 = .ok (.return_, 1) := by decide +kernel
theorem dX0_put_0 : decode cX0_put 0 = .ok (.aload_n 0, 1) := by decide +kernel
theorem dX0_put_1 : decode cX0_put 1 = .ok (.iload_n 1, 1) := by decide +kernel
theorem dX0_put_2 : decode cX0_put 2 = .ok (.putfield 7, 3) := by decide +kernel
theorem dX0_put_5 : decode cX0_put 5 = .ok (.aload_n 0, 1) := by decide +kernel
theorem dX0_put_6 : decode cX0_put 6 = .ok (.iload_n 2, 1) := by decide +kernel
theorem dX0_put_7 : decode cX0_put 7 = .ok (.putfield 13, 3) := by decide +kernel
theorem dX0_put_10 : decode cX0_put 10 = .ok (.aload_n 0, 1) := by decide +kernel
theorem dX0_put_11 : decode cX0_put 11 = .ok (.iload_n 3, 1) := by decide +kernel
theorem dX0_put_12 : decode cX0_put 12 = .ok (.putfield 16, 3) := by decide +kernel
theorem dX0_put_15 : decode cX0_put 15 = .ok (.aload_n 0, 1) := by decide +kernel
theorem dX0_put_16 : decode cX0_put 16 = .ok (.iload 4, 2) := by decide +kernel
theorem dX0_put_18 : decode cX0_put 18 = .ok (.putfield 19, 3) := by decide +kernel
theorem dX0_put_21 : decode cX0_put 21 = .ok (.return_, 1) := by decide +kernel
theorem dX0_goesAs_0 : decode cX0_goesAs 0 = .ok (.aload_n 0, 1) := by decide +kernel
theorem dX0_goesAs_1 : decode cX0_goesAs 1 = .ok (.getfield 16, 3) := by decide +kernel
theorem dX0_goesAs_4 : decode cX0_goesAs 4 = .ok (.aload_n 1, 1) := by decide +kernel
theorem dX0_goesAs_5 : decode cX0_goesAs 5 = .ok (.getfield 16, 3) := by decide +kernel
theorem dX0_goesAs_8 : decode cX0_goesAs 8 = .ok (.if_icmp .ne 18, 3) := by decide +kernel
theorem dX0_goesAs_11 : decode cX0_goesAs 11 = .ok (.aload_n 0, 1) := by decide +kernel
theorem dX0_goesAs_12 : decode cX0_goesAs 12 = .ok (.getfield 19, 3) := by decide +kernel
theorem dX0_goesAs_15 : decode cX0_goesAs 15 = .ok (.aload_n 1, 1) := by decide +kernel
theorem dX0_goesAs_16 : decode cX0_goesAs 16 = .ok (.getfield 19, 3) := by decide +kernel
theorem dX0_goesAs_19 : decode cX0_goesAs 19 = .ok (.if_icmp .ne 7, 3) := by decide +kernel
theorem dX0_goesAs_22 : decode cX0_goesAs 22 = .ok (.iconst 1, 1) := by decide +kernel
theorem dX0_goesAs_23 : decode cX0_goesAs 23 = .ok (.goto 4, 3) := by decide +kernel
theorem dX0_goesAs_26 : decode cX0_goesAs 26 = .ok (.iconst 0, 1) := by decide +kernel
theorem dX0_goesAs_27 : decode cX0_goesAs 27 = .ok (.ireturn, 1) := by decide +kernel
theorem dX1_init_0 : decode cX1_init 0 = .ok (.aload_n 0, 1) := by decide +kernel
theorem dX1_init_1 : decode cX1_init 1 = .ok (.invokespecial 3, 3) := by decide +kernel
theorem dX1_init_4 : decode cX1_init 4 = .ok (.aload_n 0, 1) := by decide +kernel
theorem dX1_init_5 : decode cX1_init 5 = .ok (.iconst 0, 1) := by decide +kernel
theorem dX1_init_6 : decode cX1_init 6 = .ok (.putfield 9, 3) := by decide +kernel
theorem dX1_init_9 : decode cX1_init 9 = .ok (.aload_n 0, 1) := by decide +kernel
theorem dX1_init_10 : decode cX1_init 10 = .ok (.iconst 2, 1) := by decide +kernel
theorem dX1_init_11 : decode cX1_init 11 = .ok (.putfield 15, 3) := by decide +kernel
theorem dX1_init_14 : decode cX1_init 14 = .ok (.aload_n 0, 1) := by decide +kernel
theorem dX1_init_15 : decode cX1_init 15 = .ok (.ldc 18, 2) := by decide +kernel
theorem dX1_init_17 : decode cX1_init 17 = .ok (.newarray .int, 2) := by decide +kernel
theorem dX1_init_19 : decode cX1_init 19 = .ok (.putfield 19, 3) := by decide +kernel
theorem dX1_init_22 : decode cX1_init 22 = .ok (.aload_n 0, 1) := by decide +kernel
theorem dX1_init_23 : decode cX1_init 23 = .ok (.ldc 18, 2) := by decide +kernel
theorem dX1_init_25 : decode cX1_init 25 = .ok (.newarray .int, 2) := by decide +kernel
theorem dX1_init_27 : decode cX1_init 27 = .ok (.putfield 23, 3) := by decide +kernel
theorem dX1_init_30 : decode cX1_init 30 = .ok (.return_, 1) := by decide +kernel
set_option maxRecDepth 20000 in
theorem ggX1_restart_J7_fill_53178 : GoodIn wsX1_restart wsJ7_fill_53178 := goodIn_r _ [8] (by decide +kernel) (by decide +kernel)
set_option maxRecDepth 20000 in
theorem gX1_restart_J7_fill_53178 : GoodIn wsX1_restart (va_wsS RX1 26 yJ7_fill_53178 wsJ7_fill_53178) := goodIn_app (goodIn_of _ (by decide +kernel)) ggX1_restart_J7_fill_53178
theorem dX1_restart_0 : decode cX1_restart 0 = .ok (.aload_n 0, 1) := by decide +kernel
theorem dX1_restart_1 : decode cX1_restart 1 = .ok (.iload_n 1, 1) := by decide +kernel
theorem dX1_restart_2 : decode cX1_restart 2 = .ok (.putfield 9, 3) := by decide +kernel
theorem dX1_restart_5 : decode cX1_restart 5 = .ok (.aload_n 0, 1) := by decide +kernel
theorem dX1_restart_6 : decode cX1_restart 6 = .ok (.iload_n 2, 1) := by decide +kernel
theorem dX1_restart_7 : decode cX1_restart 7 = .ok (.putfield 15, 3) := by decide +kernel
theorem dX1_restart_10 : decode cX1_restart 10 = .ok (.aload_n 0, 1) := by decide +kernel
theorem dX1_restart_11 : decode cX1_restart 11 = .ok (.getfield 19, 3) := by decide +kernel
theorem dX1_restart_14 : decode cX1_restart 14 = .ok (.iconst 0, 1) := by decide +kernel
theorem dX1_restart_15 : decode cX1_restart 15 = .ok (.invokestatic 26, 3) := by decide +kernel
theorem dX1_restart_18 : decode cX1_restart 18 = .ok (.aload_n 0, 1) := by decide +kernel
theorem dX1_restart_19 : decode cX1_restart 19 = .ok (.getfield 23, 3) := by decide +kernel
theorem dX1_restart_22 : decode cX1_restart 22 = .ok (.iconst 0, 1) := by decide +kernel
theorem dX1_restart_23 : decode cX1_restart 23 = .ok (.invokestatic 26, 3) := by decide +kernel
theorem dX1_restart_26 : decode cX1_restart 26 = .ok (.return_, 1) := by decide +kernel
theorem dX1_directions_0 : decode cX1_directions 0 = .ok (.aload_n 0, 1) := by decide +kernel
theorem dX1_directions_1 : decode cX1_directions 1 = .ok (.getfield 9, 3) := by decide +kernel
theorem dX1_directions_4 : decode cX1_directions 4 = .ok (.iconst 1, 1) := by decide +kernel
theorem dX1_directions_5 : decode cX1_directions 5 = .ok (.if_icmp .ne 10, 3) := by decide +kernel
theorem dX1_directions_8 : decode cX1_directions 8 = .ok (.getstatic 32, 3) := by decide +kernel
theorem dX1_directions_11 : decode cX1_directions 11 = .ok (.arraylength, 1) := by decide +kernel
theorem dX1_directions_12 : decode cX1_directions 12 = .ok (.goto 7, 3) := by decide +kernel
theorem dX1_directions_15 : decode cX1_directions 15 = .ok (.getstatic 35, 3) := by decide +kernel
theorem dX1_directions_18 : decode cX1_directions 18 = .ok (.arraylength, 1) := by decide +kernel
theorem dX1_directions_19 : decode cX1_directions 19 = .ok (.ireturn, 1) := by decide +kernel
theorem dX1_stepX_0 : decode cX1_stepX 0 = .ok (.aload_n 0, 1) := by decide +kernel
theorem dX1_stepX_1 : decode cX1_stepX 1 = .ok (.getfield 9, 3) := by decide +kernel
theorem dX1_stepX_4 : decode cX1_stepX 4 = .ok (.iconst 1, 1) := by decide +kernel
theorem dX1_stepX_5 : decode cX1_stepX 5 = .ok (.if_icmp .ne 11, 3) := by decide +kernel
theorem dX1_stepX_8 : decode cX1_stepX 8 = .ok (.getstatic 32, 3) := by decide +kernel
theorem dX1_stepX_11 : decode cX1_stepX 11 = .ok (.iload_n 1, 1) := by decide +kernel
theorem dX1_stepX_12 : decode cX1_stepX 12 = .ok (.iaload, 1) := by decide +kernel
theorem dX1_stepX_13 : decode cX1_stepX 13 = .ok (.goto 8, 3) := by decide +kernel
theorem dX1_stepX_16 : decode cX1_stepX 16 = .ok (.getstatic 35, 3) := by decide +kernel
theorem dX1_stepX_19 : decode cX1_stepX 19 = .ok (.iload_n 1, 1) := by decide +kernel
theorem dX1_stepX_20 : decode cX1_stepX 20 = .ok (.iaload, 1) := by decide +kernel
theorem dX1_stepX_21 : decode cX1_stepX 21 = .ok (.ireturn, 1) := by decide +kernel
theorem dX1_stepY_0 : decode cX1_stepY 0 = .ok (.aload_n 0, 1) := by decide +kernel
theorem dX1_stepY_1 : decode cX1_stepY 1 = .ok (.getfield 9, 3) := by decide +kernel
theorem dX1_stepY_4 : decode cX1_stepY 4 = .ok (.iconst 1, 1) := by decide +kernel
theorem dX1_stepY_5 : decode cX1_stepY 5 = .ok (.if_icmp .ne 11, 3) := by decide +kernel
theorem dX1_stepY_8 : decode cX1_stepY 8 = .ok (.getstatic 38, 3) := by decide +kernel
theorem dX1_stepY_11 : decode cX1_stepY 11 = .ok (.iload_n 1, 1) := by decide +kernel
theorem dX1_stepY_12 : decode cX1_stepY 12 = .ok (.iaload, 1) := by decide +kernel
theorem dX1_stepY_13 : decode cX1_stepY 13 = .ok (.goto 8, 3) := by decide +kernel
theorem dX1_stepY_16 : decode cX1_stepY 16 = .ok (.getstatic 41, 3) := by decide +kernel
theorem dX1_stepY_19 : decode cX1_stepY 19 = .ok (.iload_n 1, 1) := by decide +kernel
theorem dX1_stepY_20 : decode cX1_stepY 20 = .ok (.iaload, 1) := by decide +kernel
theorem dX1_stepY_21 : decode cX1_stepY 21 = .ok (.ireturn, 1) := by decide +kernel
set_option maxRecDepth 20000 in
theorem ggX1_turned_X1_directions : GoodIn wsX1_turned wsX1_directions := goodIn_r _ [5, 6, 7, 8, 9, 10] (by decide +kernel) (by decide +kernel)
set_option maxRecDepth 20000 in
theorem gX1_turned_X1_directions : GoodIn wsX1_turned (wsV RX1 44 RX1 yX1_directions wsX1_directions) := goodIn_app (goodIn_of _ (by decide +kernel)) ggX1_turned_X1_directions
theorem dX1_turned_0 : decode cX1_turned 0 = .ok (.iload_n 1, 1) := by decide +kernel
theorem dX1_turned_1 : decode cX1_turned 1 = .ok (.iload_n 2, 1) := by decide +kernel
theorem dX1_turned_2 : decode cX1_turned 2 = .ok (.iadd, 1) := by decide +kernel
theorem dX1_turned_3 : decode cX1_turned 3 = .ok (.istore_n 3, 1) := by decide +kernel
theorem dX1_turned_4 : decode cX1_turned 4 = .ok (.iload_n 3, 1) := by decide +kernel
theorem dX1_turned_5 : decode cX1_turned 5 = .ok (.ifCond .ge 10, 3) := by decide +kernel
theorem dX1_turned_8 : decode cX1_turned 8 = .ok (.iload_n 3, 1) := by decide +kernel
theorem dX1_turned_9 : decode cX1_turned 9 = .ok (.aload_n 0, 1) := by decide +kernel
theorem dX1_turned_10 : decode cX1_turned 10 = .ok (.invokevirtual 44, 3) := by decide +kernel
theorem dX1_turned_13 : decode cX1_turned 13 = .ok (.iadd, 1) := by decide +kernel
theorem dX1_turned_14 : decode cX1_turned 14 = .ok (.ireturn, 1) := by decide +kernel
theorem dX1_turned_15 : decode cX1_turned 15 = .ok (.iload_n 3, 1) := by decide +kernel
theorem dX1_turned_16 : decode cX1_turned 16 = .ok (.aload_n 0, 1) := by decide +kernel
theorem dX1_turned_17 : decode cX1_turned 17 = .ok (.invokevirtual 44, 3) := by decide +kernel
theorem dX1_turned_20 : decode cX1_turned 20 = .ok (.if_icmp .ge 7, 3) := by decide +kernel
theorem dX1_turned_23 : decode cX1_turned 23 = .ok (.iload_n 3, 1) := by decide +kernel
theorem dX1_turned_24 : decode cX1_turned 24 = .ok (.goto 9, 3) := by decide +kernel
theorem dX1_turned_27 : decode cX1_turned 27 = .ok (.iload_n 3, 1) := by decide +kernel
theorem dX1_turned_28 : decode cX1_turned 28 = .ok (.aload_n 0, 1) := by decide +kernel
theorem dX1_turned_29 : decode cX1_turned 29 = .ok (.invokevirtual 44, 3) := by decide +kernel
theorem dX1_turned_32 : decode cX1_turned 32 = .ok (.isub, 1) := by decide +kernel
theorem dX1_turned_33 : decode cX1_turned 33 = .ok (.ireturn, 1) := by decide +kernel
set_option maxRecDepth 20000 in
theorem ggX1_leastX_X1_isColumnUsed : GoodIn wsX1_leastX wsX1_isColumnUsed := goodIn_r _ [5, 6, 7, 8, 9, 10, 11] (by decide +kernel) (by decide +kernel)
set_option maxRecDepth 20000 in
theorem gX1_leastX_X1_isColumnUsed : GoodIn wsX1_leastX (wsV RX1 48 RX1 yX1_isColumnUsed wsX1_isColumnUsed) := goodIn_app (goodIn_of _ (by decide +kernel)) ggX1_leastX_X1_isColumnUsed
theorem dX1_leastX_0 : decode cX1_leastX 0 = .ok (.iconst 0, 1) := by decide +kernel
theorem dX1_leastX_1 : decode cX1_leastX 1 = .ok (.istore_n 1, 1) := by decide +kernel
theorem dX1_leastX_2 : decode cX1_leastX 2 = .ok (.iload_n 1, 1) := by decide +kernel
theorem dX1_leastX_3 : decode cX1_leastX 3 = .ok (.sipush 240, 3) := by decide +kernel
theorem dX1_leastX_6 : decode cX1_leastX 6 = .ok (.if_icmp .ge 19, 3) := by decide +kernel
theorem dX1_leastX_9 : decode cX1_leastX 9 = .ok (.aload_n 0, 1) := by decide +kernel
theorem dX1_leastX_10 : decode cX1_leastX 10 = .ok (.iload_n 1, 1) := by decide +kernel
theorem dX1_leastX_11 : decode cX1_leastX 11 = .ok (.invokevirtual 48, 3) := by decide +kernel
theorem dX1_leastX_14 : decode cX1_leastX 14 = .ok (.ifCond .eq 5, 3) := by decide +kernel
theorem dX1_leastX_17 : decode cX1_leastX 17 = .ok (.iload_n 1, 1) := by decide +kernel
theorem dX1_leastX_18 : decode cX1_leastX 18 = .ok (.ireturn, 1) := by decide +kernel
theorem dX1_leastX_19 : decode cX1_leastX 19 = .ok (.iinc 1 1, 3) := by decide +kernel
theorem dX1_leastX_22 : decode cX1_leastX 22 = .ok (.goto (-20), 3) := by decide +kernel
theorem dX1_leastX_25 : decode cX1_leastX 25 = .ok (.iconst (-1), 1) := by decide +kernel
theorem dX1_leastX_26 : decode cX1_leastX 26 = .ok (.ireturn, 1) := by decide +kernel
set_option maxRecDepth 20000 in
theorem ggX1_greatestX_X1_isColumnUsed : GoodIn wsX1_greatestX wsX1_isColumnUsed := goodIn_r _ [5, 6, 7, 8, 9, 10, 11] (by decide +kernel) (by decide +kernel)
set_option maxRecDepth 20000 in
theorem gX1_greatestX_X1_isColumnUsed : GoodIn wsX1_greatestX (wsV RX1 48 RX1 yX1_isColumnUsed wsX1_isColumnUsed) := goodIn_app (goodIn_of _ (by decide +kernel)) ggX1_greatestX_X1_isColumnUsed
theorem dX1_greatestX_0 : decode cX1_greatestX 0 = .ok (.sipush 239, 3) := by decide +kernel
theorem dX1_greatestX_3 : decode cX1_greatestX 3 = .ok (.istore_n 1, 1) := by decide +kernel
theorem dX1_greatestX_4 : decode cX1_greatestX 4 = .ok (.iload_n 1, 1) := by decide +kernel
theorem dX1_greatestX_5 : decode cX1_greatestX 5 = .ok (.ifCond .lt 19, 3) := by decide +kernel
theorem dX1_greatestX_8 : decode cX1_greatestX 8 = .ok (.aload_n 0, 1) := by decide +kernel
theorem dX1_greatestX_9 : decode cX1_greatestX 9 = .ok (.iload_n 1, 1) := by decide +kernel
theorem dX1_greatestX_10 : decode cX1_greatestX 10 = .ok (.invokevirtual 48, 3) := by decide +kernel
theorem dX1_greatestX_13 : decode cX1_greatestX 13 = .ok (.ifCond .eq 5, 3) := by decide +kernel
theorem dX1_greatestX_16 : decode cX1_greatestX 16 = .ok (.iload_n 1, 1) := by decide +kernel
theorem dX1_greatestX_17 : decode cX1_greatestX 17 = .ok (.ireturn, 1) := by decide +kernel
theorem dX1_greatestX_18 : decode cX1_greatestX 18 = .ok (.iinc 1 (-1), 3) := by decide +kernel
theorem dX1_greatestX_21 : decode cX1_greatestX 21 = .ok (.goto (-17), 3) := by decide +kernel
theorem dX1_greatestX_24 : decode cX1_greatestX 24 = .ok (.iconst (-1), 1) := by decide +kernel
theorem dX1_greatestX_25 : decode cX1_greatestX 25 = .ok (.ireturn, 1) := by decide +kernel
theorem dX1_leastY_0 : decode cX1_leastY 0 = .ok (.iconst 0, 1) := by decide +kernel
theorem dX1_leastY_1 : decode cX1_leastY 1 = .ok (.istore_n 1, 1) := by decide +kernel
theorem dX1_leastY_2 : decode cX1_leastY 2 = .ok (.iload_n 1, 1) := by decide +kernel
theorem dX1_leastY_3 : decode cX1_leastY 3 = .ok (.ldc 18, 2) := by decide +kernel
theorem dX1_leastY_5 : decode cX1_leastY 5 = .ok (.if_icmp .ge 24, 3) := by decide +kernel
theorem dX1_leastY_8 : decode cX1_leastY 8 = .ok (.aload_n 0, 1) := by decide +kernel
theorem dX1_leastY_9 : decode cX1_leastY 9 = .ok (.getfield 19, 3) := by decide +kernel
theorem dX1_leastY_12 : decode cX1_leastY 12 = .ok (.iload_n 1, 1) := by decide +kernel
theorem dX1_leastY_13 : decode cX1_leastY 13 = .ok (.iaload, 1) := by decide +kernel
theorem dX1_leastY_14 : decode cX1_leastY 14 = .ok (.ifCond .eq 9, 3) := by decide +kernel
theorem dX1_leastY_17 : decode cX1_leastY 17 = .ok (.iload_n 1, 1) := by decide +kernel
theorem dX1_leastY_18 : decode cX1_leastY 18 = .ok (.sipush 240, 3) := by decide +kernel
theorem dX1_leastY_21 : decode cX1_leastY 21 = .ok (.idiv, 1) := by decide +kernel
theorem dX1_leastY_22 : decode cX1_leastY 22 = .ok (.ireturn, 1) := by decide +kernel
theorem dX1_leastY_23 : decode cX1_leastY 23 = .ok (.iinc 1 1, 3) := by decide +kernel
theorem dX1_leastY_26 : decode cX1_leastY 26 = .ok (.goto (-24), 3) := by decide +kernel
theorem dX1_leastY_29 : decode cX1_leastY 29 = .ok (.iconst (-1), 1) := by decide +kernel
theorem dX1_leastY_30 : decode cX1_leastY 30 = .ok (.ireturn, 1) := by decide +kernel
theorem dX1_greatestY_0 : decode cX1_greatestY 0 = .ok (.ldc 52, 2) := by decide +kernel
theorem dX1_greatestY_2 : decode cX1_greatestY 2 = .ok (.istore_n 1, 1) := by decide +kernel
theorem dX1_greatestY_3 : decode cX1_greatestY 3 = .ok (.iload_n 1, 1) := by decide +kernel
theorem dX1_greatestY_4 : decode cX1_greatestY 4 = .ok (.ifCond .lt 24, 3) := by decide +kernel
theorem dX1_greatestY_7 : decode cX1_greatestY 7 = .ok (.aload_n 0, 1) := by decide +kernel
theorem dX1_greatestY_8 : decode cX1_greatestY 8 = .ok (.getfield 19, 3) := by decide +kernel
theorem dX1_greatestY_11 : decode cX1_greatestY 11 = .ok (.iload_n 1, 1) := by decide +kernel
theorem dX1_greatestY_12 : decode cX1_greatestY 12 = .ok (.iaload, 1) := by decide +kernel
theorem dX1_greatestY_13 : decode cX1_greatestY 13 = .ok (.ifCond .eq 9, 3) := by decide +kernel
theorem dX1_greatestY_16 : decode cX1_greatestY 16 = .ok (.iload_n 1, 1) := by decide +kernel
theorem dX1_greatestY_17 : decode cX1_greatestY 17 = .ok (.sipush 240, 3) := by decide +kernel
theorem dX1_greatestY_20 : decode cX1_greatestY 20 = .ok (.idiv, 1) := by decide +kernel
theorem dX1_greatestY_21 : decode cX1_greatestY 21 = .ok (.ireturn, 1) := by decide +kernel
theorem dX1_greatestY_22 : decode cX1_greatestY 22 = .ok (.iinc 1 (-1), 3) := by decide +kernel
theorem dX1_greatestY_25 : decode cX1_greatestY 25 = .ok (.goto (-22), 3) := by decide +kernel
theorem dX1_greatestY_28 : decode cX1_greatestY 28 = .ok (.iconst (-1), 1) := by decide +kernel
theorem dX1_greatestY_29 : decode cX1_greatestY 29 = .ok (.ireturn, 1) := by decide +kernel
theorem dX1_isColumnUsed_0 : decode cX1_isColumnUsed 0 = .ok (.iload_n 1, 1) := by decide +kernel
theorem dX1_isColumnUsed_1 : decode cX1_isColumnUsed 1 = .ok (.istore_n 2, 1) := by decide +kernel
theorem dX1_isColumnUsed_2 : decode cX1_isColumnUsed 2 = .ok (.iload_n 2, 1) := by decide +kernel
theorem dX1_isColumnUsed_3 : decode cX1_isColumnUsed 3 = .ok (.ldc 18, 2) := by decide +kernel
theorem dX1_isColumnUsed_5 : decode cX1_isColumnUsed 5 = .ok (.if_icmp .ge 23, 3) := by decide +kernel
theorem dX1_isColumnUsed_8 : decode cX1_isColumnUsed 8 = .ok (.aload_n 0, 1) := by decide +kernel
theorem dX1_isColumnUsed_9 : decode cX1_isColumnUsed 9 = .ok (.getfield 19, 3) := by decide +kernel
theorem dX1_isColumnUsed_12 : decode cX1_isColumnUsed 12 = .ok (.iload_n 2, 1) := by decide +kernel
theorem dX1_isColumnUsed_13 : decode cX1_isColumnUsed 13 = .ok (.iaload, 1) := by decide +kernel
theorem dX1_isColumnUsed_14 : decode cX1_isColumnUsed 14 = .ok (.ifCond .eq 5, 3) := by decide +kernel
theorem dX1_isColumnUsed_17 : decode cX1_isColumnUsed 17 = .ok (.iconst 1, 1) := by decide +kernel
theorem dX1_isColumnUsed_18 : decode cX1_isColumnUsed 18 = .ok (.ireturn, 1) := by decide +kernel
theorem dX1_isColumnUsed_19 : decode cX1_isColumnUsed 19 = .ok (.iinc 2 240, 6) := by decide +kernel
theorem dX1_isColumnUsed_25 : decode cX1_isColumnUsed 25 = .ok (.goto (-23), 3) := by decide +kernel
theorem dX1_isColumnUsed_28 : decode cX1_isColumnUsed 28 = .ok (.iconst 0, 1) := by decide +kernel
theorem dX1_isColumnUsed_29 : decode cX1_isColumnUsed 29 = .ok (.ireturn, 1) := by decide +kernel
set_option maxRecDepth 20000 in
theorem ggX2_init_X0_init : GoodIn wsX2_init wsX0_init := goodIn_r _ [13, 14, 2, 3] (by decide +kernel) (by decide +kernel)
set_option maxRecDepth 20000 in
theorem gX2_init_X0_init_n11 : GoodIn wsX2_init (wsX0_init) := ggX2_init_X0_init
theorem dX2_init_0 : decode cX2_init 0 = .ok (.aload_n 0, 1) := by decide +kernel
theorem dX2_init_1 : decode cX2_init 1 = .ok (.invokespecial 3, 3) := by decide +kernel
theorem dX2_init_4 : decode cX2_init 4 = .ok (.aload_n 0, 1) := by decide +kernel
theorem dX2_init_5 : decode cX2_init 5 = .ok (.new 9, 3) := by decide +kernel
theorem dX2_init_8 : decode cX2_init 8 = .ok (.dup, 1) := by decide +kernel
theorem dX2_init_9 : decode cX2_init 9 = .ok (.invokespecial 11, 3) := by decide +kernel
theorem dX2_init_12 : decode cX2_init 12 = .ok (.putfield 12, 3) := by decide +kernel
theorem dX2_init_15 : decode cX2_init 15 = .ok (.aload_n 0, 1) := by decide +kernel
theorem dX2_init_16 : decode cX2_init 16 = .ok (.ldc 18, 2) := by decide +kernel
theorem dX2_init_18 : decode cX2_init 18 = .ok (.newarray .int, 2) := by decide +kernel
theorem dX2_init_20 : decode cX2_init 20 = .ok (.putfield 19, 3) := by decide +kernel
theorem dX2_init_23 : decode cX2_init 23 = .ok (.aload_n 0, 1) := by decide +kernel
theorem dX2_init_24 : decode cX2_init 24 = .ok (.ldc 18, 2) := by decide +kernel
theorem dX2_init_26 : decode cX2_init 26 = .ok (.newarray .int, 2) := by decide +kernel
theorem dX2_init_28 : decode cX2_init 28 = .ok (.putfield 23, 3) := by decide +kernel
theorem dX2_init_31 : decode cX2_init 31 = .ok (.return_, 1) := by decide +kernel
theorem dX2_forget_0 : decode cX2_forget 0 = .ok (.aload_n 0, 1) := by decide +kernel
theorem dX2_forget_1 : decode cX2_forget 1 = .ok (.iconst 0, 1) := by decide +kernel
theorem dX2_forget_2 : decode cX2_forget 2 = .ok (.putfield 26, 3) := by decide +kernel
theorem dX2_forget_5 : decode cX2_forget 5 = .ok (.return_, 1) := by decide +kernel
set_option maxRecDepth 20000 in
theorem ggX2_take_X0_put : GoodIn wsX2_take wsX0_put := goodIn_r _ [21, 22, 23, 24, 25, 37, 38, 39, 40] (by decide +kernel) (by decide +kernel)
set_option maxRecDepth 20000 in
theorem gX2_take_X0_put : GoodIn wsX2_take (wsV RX2 49 RX0 yX0_put wsX0_put) := goodIn_app (goodIn_of _ (by decide +kernel)) ggX2_take_X0_put
set_option maxRecDepth 20000 in
theorem ggX2_take_J7_fill_53178 : GoodIn wsX2_take wsJ7_fill_53178 := goodIn_r _ [29] (by decide +kernel) (by decide +kernel)
set_option maxRecDepth 20000 in
theorem gX2_take_J7_fill_53178 : GoodIn wsX2_take (va_wsS RX2 59 yJ7_fill_53178 wsJ7_fill_53178) := goodIn_app (goodIn_of _ (by decide +kernel)) ggX2_take_J7_fill_53178
theorem dX2_take_0 : decode cX2_take 0 = .ok (.aload_n 0, 1) := by decide +kernel
theorem dX2_take_1 : decode cX2_take 1 = .ok (.iconst 1, 1) := by decide +kernel
theorem dX2_take_2 : decode cX2_take 2 = .ok (.putfield 26, 3) := by decide +kernel
theorem dX2_take_5 : decode cX2_take 5 = .ok (.aload_n 0, 1) := by decide +kernel
theorem dX2_take_6 : decode cX2_take 6 = .ok (.iconst 0, 1) := by decide +kernel
theorem dX2_take_7 : decode cX2_take 7 = .ok (.putfield 30, 3) := by decide +kernel
theorem dX2_take_10 : decode cX2_take 10 = .ok (.aload_n 0, 1) := by decide +kernel
theorem dX2_take_11 : decode cX2_take 11 = .ok (.iload_n 3, 1) := by decide +kernel
theorem dX2_take_12 : decode cX2_take 12 = .ok (.putfield 33, 3) := by decide +kernel
theorem dX2_take_15 : decode cX2_take 15 = .ok (.aload_n 0, 1) := by decide +kernel
theorem dX2_take_16 : decode cX2_take 16 = .ok (.getfield 12, 3) := by decide +kernel
theorem dX2_take_19 : decode cX2_take 19 = .ok (.aload_n 2, 1) := by decide +kernel
theorem dX2_take_20 : decode cX2_take 20 = .ok (.getfield 37, 3) := by decide +kernel
theorem dX2_take_23 : decode cX2_take 23 = .ok (.aload_n 2, 1) := by decide +kernel
theorem dX2_take_24 : decode cX2_take 24 = .ok (.getfield 40, 3) := by decide +kernel
theorem dX2_take_27 : decode cX2_take 27 = .ok (.aload_n 2, 1) := by decide +kernel
theorem dX2_take_28 : decode cX2_take 28 = .ok (.getfield 43, 3) := by decide +kernel
theorem dX2_take_31 : decode cX2_take 31 = .ok (.aload_n 2, 1) := by decide +kernel
theorem dX2_take_32 : decode cX2_take 32 = .ok (.getfield 46, 3) := by decide +kernel
theorem dX2_take_35 : decode cX2_take 35 = .ok (.invokevirtual 49, 3) := by decide +kernel
theorem dX2_take_38 : decode cX2_take 38 = .ok (.aload_n 1, 1) := by decide +kernel
theorem dX2_take_39 : decode cX2_take 39 = .ok (.iconst 0, 1) := by decide +kernel
theorem dX2_take_40 : decode cX2_take 40 = .ok (.aload_n 0, 1) := by decide +kernel
theorem dX2_take_41 : decode cX2_take 41 = .ok (.getfield 19, 3) := by decide +kernel
theorem dX2_take_44 : decode cX2_take 44 = .ok (.iconst 0, 1) := by decide +kernel
theorem dX2_take_45 : decode cX2_take 45 = .ok (.ldc 18, 2) := by decide +kernel
theorem dX2_take_47 : decode cX2_take 47 = .ok (.invokestatic 53, 3) := by decide +kernel
theorem dX2_take_50 : decode cX2_take 50 = .ok (.aload_n 0, 1) := by decide +kernel
theorem dX2_take_51 : decode cX2_take 51 = .ok (.getfield 23, 3) := by decide +kernel
theorem dX2_take_54 : decode cX2_take 54 = .ok (.iconst 0, 1) := by decide +kernel
theorem dX2_take_55 : decode cX2_take 55 = .ok (.invokestatic 59, 3) := by decide +kernel
theorem dX2_take_58 : decode cX2_take 58 = .ok (.aload_n 0, 1) := by decide +kernel
theorem dX2_take_59 : decode cX2_take 59 = .ok (.iconst 0, 1) := by decide +kernel
theorem dX2_take_60 : decode cX2_take 60 = .ok (.putfield 65, 3) := by decide +kernel
theorem dX2_take_63 : decode cX2_take 63 = .ok (.return_, 1) := by decide +kernel
theorem dX2_spoil_0 : decode cX2_spoil 0 = .ok (.aload_n 0, 1) := by decide +kernel
theorem dX2_spoil_1 : decode cX2_spoil 1 = .ok (.iconst 1, 1) := by decide +kernel
theorem dX2_spoil_2 : decode cX2_spoil 2 = .ok (.putfield 30, 3) := by decide +kernel
theorem dX2_spoil_5 : decode cX2_spoil 5 = .ok (.return_, 1) := by decide +kernel
theorem dX2_tread_0 : decode cX2_tread 0 = .ok (.iconst 0, 1) := by decide +kernel
theorem dX2_tread_1 : decode cX2_tread 1 = .ok (.istore_n 3, 1) := by decide +kernel
theorem dX2_tread_2 : decode cX2_tread 2 = .ok (.iload_n 3, 1) := by decide +kernel
theorem dX2_tread_3 : decode cX2_tread 3 = .ok (.iload_n 2, 1) := by decide +kernel
theorem dX2_tread_4 : decode cX2_tread 4 = .ok (.if_icmp .ge 46, 3) := by decide +kernel
theorem dX2_tread_7 : decode cX2_tread 7 = .ok (.aload_n 0, 1) := by decide +kernel
theorem dX2_tread_8 : decode cX2_tread 8 = .ok (.getfield 26, 3) := by decide +kernel
theorem dX2_tread_11 : decode cX2_tread 11 = .ok (.ifCond .eq 39, 3) := by decide +kernel
theorem dX2_tread_14 : decode cX2_tread 14 = .ok (.aload_n 0, 1) := by decide +kernel
theorem dX2_tread_15 : decode cX2_tread 15 = .ok (.getfield 23, 3) := by decide +kernel
theorem dX2_tread_18 : decode cX2_tread 18 = .ok (.aload_n 1, 1) := by decide +kernel
theorem dX2_tread_19 : decode cX2_tread 19 = .ok (.iload_n 3, 1) := by decide +kernel
theorem dX2_tread_20 : decode cX2_tread 20 = .ok (.iaload, 1) := by decide +kernel
theorem dX2_tread_21 : decode cX2_tread 21 = .ok (.iaload, 1) := by decide +kernel
theorem dX2_tread_22 : decode cX2_tread 22 = .ok (.ifCond .ne 22, 3) := by decide +kernel
theorem dX2_tread_25 : decode cX2_tread 25 = .ok (.aload_n 0, 1) := by decide +kernel
theorem dX2_tread_26 : decode cX2_tread 26 = .ok (.getfield 23, 3) := by decide +kernel
theorem dX2_tread_29 : decode cX2_tread 29 = .ok (.aload_n 1, 1) := by decide +kernel
theorem dX2_tread_30 : decode cX2_tread 30 = .ok (.iload_n 3, 1) := by decide +kernel
theorem dX2_tread_31 : decode cX2_tread 31 = .ok (.iaload, 1) := by decide +kernel
theorem dX2_tread_32 : decode cX2_tread 32 = .ok (.iconst 1, 1) := by decide +kernel
theorem dX2_tread_33 : decode cX2_tread 33 = .ok (.iastore, 1) := by decide +kernel
theorem dX2_tread_34 : decode cX2_tread 34 = .ok (.aload_n 0, 1) := by decide +kernel
theorem dX2_tread_35 : decode cX2_tread 35 = .ok (.dup, 1) := by decide +kernel
theorem dX2_tread_36 : decode cX2_tread 36 = .ok (.getfield 65, 3) := by decide +kernel
theorem dX2_tread_39 : decode cX2_tread 39 = .ok (.iconst 1, 1) := by decide +kernel
theorem dX2_tread_40 : decode cX2_tread 40 = .ok (.iadd, 1) := by decide +kernel
theorem dX2_tread_41 : decode cX2_tread 41 = .ok (.putfield 65, 3) := by decide +kernel
theorem dX2_tread_44 : decode cX2_tread 44 = .ok (.iinc 3 1, 3) := by decide +kernel
theorem dX2_tread_47 : decode cX2_tread 47 = .ok (.goto (-45), 3) := by decide +kernel
theorem dX2_tread_50 : decode cX2_tread 50 = .ok (.return_, 1) := by decide +kernel
theorem dX3_init_0 : decode cX3_init 0 = .ok (.aload_n 0, 1) := by decide +kernel
theorem dX3_init_1 : decode cX3_init 1 = .ok (.invokespecial 3, 3) := by decide +kernel
theorem dX3_init_4 : decode cX3_init 4 = .ok (.aload_n 0, 1) := by decide +kernel
theorem dX3_init_5 : decode cX3_init 5 = .ok (.bipush 60, 2) := by decide +kernel
theorem dX3_init_7 : decode cX3_init 7 = .ok (.newarray .int, 2) := by decide +kernel
theorem dX3_init_9 : decode cX3_init 9 = .ok (.putfield 9, 3) := by decide +kernel
theorem dX3_init_12 : decode cX3_init 12 = .ok (.aload_n 0, 1) := by decide +kernel
theorem dX3_init_13 : decode cX3_init 13 = .ok (.bipush 60, 2) := by decide +kernel
theorem dX3_init_15 : decode cX3_init 15 = .ok (.newarray .int, 2) := by decide +kernel
theorem dX3_init_17 : decode cX3_init 17 = .ok (.putfield 15, 3) := by decide +kernel
theorem dX3_init_20 : decode cX3_init 20 = .ok (.aload_n 0, 1) := by decide +kernel
theorem dX3_init_21 : decode cX3_init 21 = .ok (.bipush 60, 2) := by decide +kernel
theorem dX3_init_23 : decode cX3_init 23 = .ok (.newarray .int, 2) := by decide +kernel
theorem dX3_init_25 : decode cX3_init 25 = .ok (.putfield 18, 3) := by decide +kernel
theorem dX3_init_28 : decode cX3_init 28 = .ok (.aload_n 0, 1) := by decide +kernel
theorem dX3_init_29 : decode cX3_init 29 = .ok (.bipush 60, 2) := by decide +kernel
theorem dX3_init_31 : decode cX3_init 31 = .ok (.newarray .int, 2) := by decide +kernel
theorem dX3_init_33 : decode cX3_init 33 = .ok (.putfield 21, 3) := by decide +kernel
theorem dX3_init_36 : decode cX3_init 36 = .ok (.return_, 1) := by decide +kernel
theorem dX3_forget_0 : decode cX3_forget 0 = .ok (.aload_n 0, 1) := by decide +kernel
theorem dX3_forget_1 : decode cX3_forget 1 = .ok (.iconst 0, 1) := by decide +kernel
theorem dX3_forget_2 : decode cX3_forget 2 = .ok (.putfield 24, 3) := by decide +kernel
theorem dX3_forget_5 : decode cX3_forget 5 = .ok (.return_, 1) := by decide +kernel
theorem dX3_kept_0 : decode cX3_kept 0 = .ok (.aload_n 0, 1) := by decide +kernel
theorem dX3_kept_1 : decode cX3_kept 1 = .ok (.getfield 24, 3) := by decide +kernel
theorem dX3_kept_4 : decode cX3_kept 4 = .ok (.bipush 60, 2) := by decide +kernel
theorem dX3_kept_6 : decode cX3_kept 6 = .ok (.if_icmp .ge 10, 3) := by decide +kernel
theorem dX3_kept_9 : decode cX3_kept 9 = .ok (.aload_n 0, 1) := by decide +kernel
theorem dX3_kept_10 : decode cX3_kept 10 = .ok (.getfield 24, 3) := by decide +kernel
theorem dX3_kept_13 : decode cX3_kept 13 = .ok (.goto 5, 3) := by decide +kernel
theorem dX3_kept_16 : decode cX3_kept 16 = .ok (.bipush 60, 2) := by decide +kernel
theorem dX3_kept_18 : decode cX3_kept 18 = .ok (.ireturn, 1) := by decide +kernel
theorem dX3_keep_0 : decode cX3_keep 0 = .ok (.aload_n 0, 1) := by decide +kernel
theorem dX3_keep_1 : decode cX3_keep 1 = .ok (.getfield 24, 3) := by decide +kernel
theorem dX3_keep_4 : decode cX3_keep 4 = .ok (.bipush 60, 2) := by decide +kernel
theorem dX3_keep_6 : decode cX3_keep 6 = .ok (.if_icmp .ge 44, 3) := by decide +kernel
theorem dX3_keep_9 : decode cX3_keep 9 = .ok (.aload_n 0, 1) := by decide +kernel
theorem dX3_keep_10 : decode cX3_keep 10 = .ok (.getfield 9, 3) := by decide +kernel
theorem dX3_keep_13 : decode cX3_keep 13 = .ok (.aload_n 0, 1) := by decide +kernel
theorem dX3_keep_14 : decode cX3_keep 14 = .ok (.getfield 24, 3) := by decide +kernel
theorem dX3_keep_17 : decode cX3_keep 17 = .ok (.iload_n 1, 1) := by decide +kernel
theorem dX3_keep_18 : decode cX3_keep 18 = .ok (.iastore, 1) := by decide +kernel
theorem dX3_keep_19 : decode cX3_keep 19 = .ok (.aload_n 0, 1) := by decide +kernel
theorem dX3_keep_20 : decode cX3_keep 20 = .ok (.getfield 15, 3) := by decide +kernel
theorem dX3_keep_23 : decode cX3_keep 23 = .ok (.aload_n 0, 1) := by decide +kernel
theorem dX3_keep_24 : decode cX3_keep 24 = .ok (.getfield 24, 3) := by decide +kernel
theorem dX3_keep_27 : decode cX3_keep 27 = .ok (.iload_n 2, 1) := by decide +kernel
theorem dX3_keep_28 : decode cX3_keep 28 = .ok (.iastore, 1) := by decide +kernel
theorem dX3_keep_29 : decode cX3_keep 29 = .ok (.aload_n 0, 1) := by decide +kernel
theorem dX3_keep_30 : decode cX3_keep 30 = .ok (.getfield 18, 3) := by decide +kernel
theorem dX3_keep_33 : decode cX3_keep 33 = .ok (.aload_n 0, 1) := by decide +kernel
theorem dX3_keep_34 : decode cX3_keep 34 = .ok (.getfield 24, 3) := by decide +kernel
theorem dX3_keep_37 : decode cX3_keep 37 = .ok (.iload_n 3, 1) := by decide +kernel
theorem dX3_keep_38 : decode cX3_keep 38 = .ok (.iastore, 1) := by decide +kernel
theorem dX3_keep_39 : decode cX3_keep 39 = .ok (.aload_n 0, 1) := by decide +kernel
theorem dX3_keep_40 : decode cX3_keep 40 = .ok (.getfield 21, 3) := by decide +kernel
theorem dX3_keep_43 : decode cX3_keep 43 = .ok (.aload_n 0, 1) := by decide +kernel
theorem dX3_keep_44 : decode cX3_keep 44 = .ok (.getfield 24, 3) := by decide +kernel
theorem dX3_keep_47 : decode cX3_keep 47 = .ok (.iload 4, 2) := by decide +kernel
theorem dX3_keep_49 : decode cX3_keep 49 = .ok (.iastore, 1) := by decide +kernel
theorem dX3_keep_50 : decode cX3_keep 50 = .ok (.aload_n 0, 1) := by decide +kernel
theorem dX3_keep_51 : decode cX3_keep 51 = .ok (.dup, 1) := by decide +kernel
theorem dX3_keep_52 : decode cX3_keep 52 = .ok (.getfield 24, 3) := by decide +kernel
theorem dX3_keep_55 : decode cX3_keep 55 = .ok (.iconst 1, 1) := by decide +kernel
theorem dX3_keep_56 : decode cX3_keep 56 = .ok (.iadd, 1) := by decide +kernel
theorem dX3_keep_57 : decode cX3_keep 57 = .ok (.putfield 24, 3) := by decide +kernel
theorem dX3_keep_60 : decode cX3_keep 60 = .ok (.return_, 1) := by decide +kernel
theorem dX4_init_0 : decode cX4_init 0 = .ok (.aload_n 0, 1) := by decide +kernel
theorem dX4_init_1 : decode cX4_init 1 = .ok (.invokespecial 3, 3) := by decide +kernel
theorem dX4_init_4 : decode cX4_init 4 = .ok (.aload_n 0, 1) := by decide +kernel
theorem dX4_init_5 : decode cX4_init 5 = .ok (.iconst 4, 1) := by decide +kernel
theorem dX4_init_6 : decode cX4_init 6 = .ok (.bipush 12, 2) := by decide +kernel
theorem dX4_init_8 : decode cX4_init 8 = .ok (.multianewarray 9 2, 4) := by decide +kernel
theorem dX4_init_12 : decode cX4_init 12 = .ok (.putfield 11, 3) := by decide +kernel
theorem dX4_init_15 : decode cX4_init 15 = .ok (.aload_n 0, 1) := by decide +kernel
theorem dX4_init_16 : decode cX4_init 16 = .ok (.bipush 12, 2) := by decide +kernel
theorem dX4_init_18 : decode cX4_init 18 = .ok (.newarray .int, 2) := by decide +kernel
theorem dX4_init_20 : decode cX4_init 20 = .ok (.putfield 16, 3) := by decide +kernel
theorem dX4_init_23 : decode cX4_init 23 = .ok (.return_, 1) := by decide +kernel
set_option maxRecDepth 20000 in
theorem ggX4_restart_X4_turnOf : GoodIn wsX4_restart wsX4_turnOf := goodIn_r _ [5] (by decide +kernel) (by decide +kernel)
set_option maxRecDepth 20000 in
theorem gX4_restart_X4_turnOf : GoodIn wsX4_restart (va_wsS RX4 20 yX4_turnOf wsX4_turnOf) := goodIn_app (goodIn_of _ (by decide +kernel)) ggX4_restart_X4_turnOf
theorem dX4_restart_0 : decode cX4_restart 0 = .ok (.iconst 0, 1) := by decide +kernel
theorem dX4_restart_1 : decode cX4_restart 1 = .ok (.istore_n 3, 1) := by decide +kernel
theorem dX4_restart_2 : decode cX4_restart 2 = .ok (.iload_n 3, 1) := by decide +kernel
theorem dX4_restart_3 : decode cX4_restart 3 = .ok (.iconst 4, 1) := by decide +kernel
theorem dX4_restart_4 : decode cX4_restart 4 = .ok (.if_icmp .ge 51, 3) := by decide +kernel
theorem dX4_restart_7 : decode cX4_restart 7 = .ok (.iconst 0, 1) := by decide +kernel
theorem dX4_restart_8 : decode cX4_restart 8 = .ok (.istore 4, 2) := by decide +kernel
theorem dX4_restart_10 : decode cX4_restart 10 = .ok (.iload 4, 2) := by decide +kernel
theorem dX4_restart_12 : decode cX4_restart 12 = .ok (.iload_n 1, 1) := by decide +kernel
theorem dX4_restart_13 : decode cX4_restart 13 = .ok (.if_icmp .ge 36, 3) := by decide +kernel
theorem dX4_restart_16 : decode cX4_restart 16 = .ok (.aload_n 0, 1) := by decide +kernel
theorem dX4_restart_17 : decode cX4_restart 17 = .ok (.getfield 11, 3) := by decide +kernel
theorem dX4_restart_20 : decode cX4_restart 20 = .ok (.iload_n 3, 1) := by decide +kernel
theorem dX4_restart_21 : decode cX4_restart 21 = .ok (.aaload, 1) := by decide +kernel
theorem dX4_restart_22 : decode cX4_restart 22 = .ok (.iload 4, 2) := by decide +kernel
theorem dX4_restart_24 : decode cX4_restart 24 = .ok (.iload 4, 2) := by decide +kernel
theorem dX4_restart_26 : decode cX4_restart 26 = .ok (.iconst 2, 1) := by decide +kernel
theorem dX4_restart_27 : decode cX4_restart 27 = .ok (.irem, 1) := by decide +kernel
theorem dX4_restart_28 : decode cX4_restart 28 = .ok (.ifCond .ne 8, 3) := by decide +kernel
theorem dX4_restart_31 : decode cX4_restart 31 = .ok (.bipush 82, 2) := by decide +kernel
theorem dX4_restart_33 : decode cX4_restart 33 = .ok (.goto 5, 3) := by decide +kernel
theorem dX4_restart_36 : decode cX4_restart 36 = .ok (.bipush 76, 2) := by decide +kernel
theorem dX4_restart_38 : decode cX4_restart 38 = .ok (.iload_n 2, 1) := by decide +kernel
theorem dX4_restart_39 : decode cX4_restart 39 = .ok (.invokestatic 20, 3) := by decide +kernel
theorem dX4_restart_42 : decode cX4_restart 42 = .ok (.iastore, 1) := by decide +kernel
theorem dX4_restart_43 : decode cX4_restart 43 = .ok (.iinc 4 1, 3) := by decide +kernel
theorem dX4_restart_46 : decode cX4_restart 46 = .ok (.goto (-36), 3) := by decide +kernel
theorem dX4_restart_49 : decode cX4_restart 49 = .ok (.iinc 3 1, 3) := by decide +kernel
theorem dX4_restart_52 : decode cX4_restart 52 = .ok (.goto (-50), 3) := by decide +kernel
theorem dX4_restart_55 : decode cX4_restart 55 = .ok (.return_, 1) := by decide +kernel
theorem dX4_hasRoomFor_0 : decode cX4_hasRoomFor 0 = .ok (.aload_n 0, 1) := by decide +kernel
theorem dX4_hasRoomFor_1 : decode cX4_hasRoomFor 1 = .ok (.getfield 24, 3) := by decide +kernel
theorem dX4_hasRoomFor_4 : decode cX4_hasRoomFor 4 = .ok (.iload_n 1, 1) := by decide +kernel
theorem dX4_hasRoomFor_5 : decode cX4_hasRoomFor 5 = .ok (.iadd, 1) := by decide +kernel
theorem dX4_hasRoomFor_6 : decode cX4_hasRoomFor 6 = .ok (.bipush 12, 2) := by decide +kernel
theorem dX4_hasRoomFor_8 : decode cX4_hasRoomFor 8 = .ok (.if_icmp .gt 7, 3) := by decide +kernel
theorem dX4_hasRoomFor_11 : decode cX4_hasRoomFor 11 = .ok (.iconst 1, 1) := by decide +kernel
theorem dX4_hasRoomFor_12 : decode cX4_hasRoomFor 12 = .ok (.goto 4, 3) := by decide +kernel
theorem dX4_hasRoomFor_15 : decode cX4_hasRoomFor 15 = .ok (.iconst 0, 1) := by decide +kernel
theorem dX4_hasRoomFor_16 : decode cX4_hasRoomFor 16 = .ok (.ireturn, 1) := by decide +kernel
theorem dX4_takeBytes_0 : decode cX4_takeBytes 0 = .ok (.iload_n 3, 1) := by decide +kernel
theorem dX4_takeBytes_1 : decode cX4_takeBytes 1 = .ok (.iconst 1, 1) := by decide +kernel
theorem dX4_takeBytes_2 : decode cX4_takeBytes 2 = .ok (.isub, 1) := by decide +kernel
theorem dX4_takeBytes_3 : decode cX4_takeBytes 3 = .ok (.istore 4, 2) := by decide +kernel
theorem dX4_takeBytes_5 : decode cX4_takeBytes 5 = .ok (.iload 4, 2) := by decide +kernel
theorem dX4_takeBytes_7 : decode cX4_takeBytes 7 = .ok (.ifCond .lt 40, 3) := by decide +kernel
theorem dX4_takeBytes_10 : decode cX4_takeBytes 10 = .ok (.aload_n 0, 1) := by decide +kernel
theorem dX4_takeBytes_11 : decode cX4_takeBytes 11 = .ok (.getfield 16, 3) := by decide +kernel
theorem dX4_takeBytes_14 : decode cX4_takeBytes 14 = .ok (.aload_n 0, 1) := by decide +kernel
theorem dX4_takeBytes_15 : decode cX4_takeBytes 15 = .ok (.getfield 24, 3) := by decide +kernel
theorem dX4_takeBytes_18 : decode cX4_takeBytes 18 = .ok (.lload_n 1, 1) := by decide +kernel
theorem dX4_takeBytes_19 : decode cX4_takeBytes 19 = .ok (.bipush 8, 2) := by decide +kernel
theorem dX4_takeBytes_21 : decode cX4_takeBytes 21 = .ok (.iload 4, 2) := by decide +kernel
theorem dX4_takeBytes_23 : decode cX4_takeBytes 23 = .ok (.imul, 1) := by decide +kernel
theorem dX4_takeBytes_24 : decode cX4_takeBytes 24 = .ok (.lushr, 1) := by decide +kernel
theorem dX4_takeBytes_25 : decode cX4_takeBytes 25 = .ok (.l2i, 1) := by decide +kernel
theorem dX4_takeBytes_26 : decode cX4_takeBytes 26 = .ok (.sipush 255, 3) := by decide +kernel
theorem dX4_takeBytes_29 : decode cX4_takeBytes 29 = .ok (.iand, 1) := by decide +kernel
theorem dX4_takeBytes_30 : decode cX4_takeBytes 30 = .ok (.iastore, 1) := by decide +kernel
theorem dX4_takeBytes_31 : decode cX4_takeBytes 31 = .ok (.aload_n 0, 1) := by decide +kernel
theorem dX4_takeBytes_32 : decode cX4_takeBytes 32 = .ok (.dup, 1) := by decide +kernel
theorem dX4_takeBytes_33 : decode cX4_takeBytes 33 = .ok (.getfield 24, 3) := by decide +kernel
theorem dX4_takeBytes_36 : decode cX4_takeBytes 36 = .ok (.iconst 1, 1) := by decide +kernel
theorem dX4_takeBytes_37 : decode cX4_takeBytes 37 = .ok (.iadd, 1) := by decide +kernel
theorem dX4_takeBytes_38 : decode cX4_takeBytes 38 = .ok (.putfield 24, 3) := by decide +kernel
theorem dX4_takeBytes_41 : decode cX4_takeBytes 41 = .ok (.iinc 4 (-1), 3) := by decide +kernel
theorem dX4_takeBytes_44 : decode cX4_takeBytes 44 = .ok (.goto (-39), 3) := by decide +kernel
theorem dX4_takeBytes_47 : decode cX4_takeBytes 47 = .ok (.aload_n 0, 1) := by decide +kernel
theorem dX4_takeBytes_48 : decode cX4_takeBytes 48 = .ok (.getfield 24, 3) := by decide +kernel
theorem dX4_takeBytes_51 : decode cX4_takeBytes 51 = .ok (.ireturn, 1) := by decide +kernel
set_option maxRecDepth 20000 in
theorem ggX4_setFromTape_X4_turnOf : GoodIn wsX4_setFromTape wsX4_turnOf := goodIn_r _ [7] (by decide +kernel) (by decide +kernel)
set_option maxRecDepth 20000 in
theorem gX4_setFromTape_X4_turnOf : GoodIn wsX4_setFromTape (va_wsS RX4 20 yX4_turnOf wsX4_turnOf) := goodIn_app (goodIn_of _ (by decide +kernel)) ggX4_setFromTape_X4_turnOf
theorem dX4_setFromTape_0 : decode cX4_setFromTape 0 = .ok (.aload_n 0, 1) := by decide +kernel
theorem dX4_setFromTape_1 : decode cX4_setFromTape 1 = .ok (.getfield 24, 3) := by decide +kernel
theorem dX4_setFromTape_4 : decode cX4_setFromTape 4 = .ok (.iload_n 2, 1) := by decide +kernel
theorem dX4_setFromTape_5 : decode cX4_setFromTape 5 = .ok (.if_icmp .ne 7, 3) := by decide +kernel
theorem dX4_setFromTape_8 : decode cX4_setFromTape 8 = .ok (.iconst 1, 1) := by decide +kernel
theorem dX4_setFromTape_9 : decode cX4_setFromTape 9 = .ok (.goto 4, 3) := by decide +kernel
theorem dX4_setFromTape_12 : decode cX4_setFromTape 12 = .ok (.iconst 0, 1) := by decide +kernel
theorem dX4_setFromTape_13 : decode cX4_setFromTape 13 = .ok (.istore 4, 2) := by decide +kernel
theorem dX4_setFromTape_15 : decode cX4_setFromTape 15 = .ok (.iconst 0, 1) := by decide +kernel
theorem dX4_setFromTape_16 : decode cX4_setFromTape 16 = .ok (.istore 5, 2) := by decide +kernel
theorem dX4_setFromTape_18 : decode cX4_setFromTape 18 = .ok (.iload 5, 2) := by decide +kernel
theorem dX4_setFromTape_20 : decode cX4_setFromTape 20 = .ok (.aload_n 0, 1) := by decide +kernel
theorem dX4_setFromTape_21 : decode cX4_setFromTape 21 = .ok (.getfield 24, 3) := by decide +kernel
theorem dX4_setFromTape_24 : decode cX4_setFromTape 24 = .ok (.if_icmp .ge 36, 3) := by decide +kernel
theorem dX4_setFromTape_27 : decode cX4_setFromTape 27 = .ok (.iload 4, 2) := by decide +kernel
theorem dX4_setFromTape_29 : decode cX4_setFromTape 29 = .ok (.ifCond .eq 22, 3) := by decide +kernel
theorem dX4_setFromTape_32 : decode cX4_setFromTape 32 = .ok (.aload_n 0, 1) := by decide +kernel
theorem dX4_setFromTape_33 : decode cX4_setFromTape 33 = .ok (.getfield 16, 3) := by decide +kernel
theorem dX4_setFromTape_36 : decode cX4_setFromTape 36 = .ok (.iload 5, 2) := by decide +kernel
theorem dX4_setFromTape_38 : decode cX4_setFromTape 38 = .ok (.iaload, 1) := by decide +kernel
theorem dX4_setFromTape_39 : decode cX4_setFromTape 39 = .ok (.iload_n 3, 1) := by decide +kernel
theorem dX4_setFromTape_40 : decode cX4_setFromTape 40 = .ok (.invokestatic 20, 3) := by decide +kernel
theorem dX4_setFromTape_43 : decode cX4_setFromTape 43 = .ok (.iconst (-1), 1) := by decide +kernel
theorem dX4_setFromTape_44 : decode cX4_setFromTape 44 = .ok (.if_icmp .eq 7, 3) := by decide +kernel
theorem dX4_setFromTape_47 : decode cX4_setFromTape 47 = .ok (.iconst 1, 1) := by decide +kernel
theorem dX4_setFromTape_48 : decode cX4_setFromTape 48 = .ok (.goto 4, 3) := by decide +kernel
theorem dX4_setFromTape_51 : decode cX4_setFromTape 51 = .ok (.iconst 0, 1) := by decide +kernel
theorem dX4_setFromTape_52 : decode cX4_setFromTape 52 = .ok (.istore 4, 2) := by decide +kernel
theorem dX4_setFromTape_54 : decode cX4_setFromTape 54 = .ok (.iinc 5 1, 3) := by decide +kernel
theorem dX4_setFromTape_57 : decode cX4_setFromTape 57 = .ok (.goto (-39), 3) := by decide +kernel
theorem dX4_setFromTape_60 : decode cX4_setFromTape 60 = .ok (.iconst 0, 1) := by decide +kernel
theorem dX4_setFromTape_61 : decode cX4_setFromTape 61 = .ok (.istore 5, 2) := by decide +kernel
theorem dX4_setFromTape_63 : decode cX4_setFromTape 63 = .ok (.iload 5, 2) := by decide +kernel
theorem dX4_setFromTape_65 : decode cX4_setFromTape 65 = .ok (.aload_n 0, 1) := by decide +kernel
theorem dX4_setFromTape_66 : decode cX4_setFromTape 66 = .ok (.getfield 24, 3) := by decide +kernel
theorem dX4_setFromTape_69 : decode cX4_setFromTape 69 = .ok (.if_icmp .ge 34, 3) := by decide +kernel
theorem dX4_setFromTape_72 : decode cX4_setFromTape 72 = .ok (.iload 4, 2) := by decide +kernel
theorem dX4_setFromTape_74 : decode cX4_setFromTape 74 = .ok (.ifCond .eq 29, 3) := by decide +kernel
theorem dX4_setFromTape_77 : decode cX4_setFromTape 77 = .ok (.aload_n 0, 1) := by decide +kernel
theorem dX4_setFromTape_78 : decode cX4_setFromTape 78 = .ok (.getfield 11, 3) := by decide +kernel
theorem dX4_setFromTape_81 : decode cX4_setFromTape 81 = .ok (.iload_n 1, 1) := by decide +kernel
theorem dX4_setFromTape_82 : decode cX4_setFromTape 82 = .ok (.aaload, 1) := by decide +kernel
theorem dX4_setFromTape_83 : decode cX4_setFromTape 83 = .ok (.iload 5, 2) := by decide +kernel
theorem dX4_setFromTape_85 : decode cX4_setFromTape 85 = .ok (.aload_n 0, 1) := by decide +kernel
theorem dX4_setFromTape_86 : decode cX4_setFromTape 86 = .ok (.getfield 16, 3) := by decide +kernel
theorem dX4_setFromTape_89 : decode cX4_setFromTape 89 = .ok (.iload 5, 2) := by decide +kernel
theorem dX4_setFromTape_91 : decode cX4_setFromTape 91 = .ok (.iaload, 1) := by decide +kernel
theorem dX4_setFromTape_92 : decode cX4_setFromTape 92 = .ok (.iload_n 3, 1) := by decide +kernel
theorem dX4_setFromTape_93 : decode cX4_setFromTape 93 = .ok (.invokestatic 20, 3) := by decide +kernel
theorem dX4_setFromTape_96 : decode cX4_setFromTape 96 = .ok (.iastore, 1) := by decide +kernel
theorem dX4_setFromTape_97 : decode cX4_setFromTape 97 = .ok (.iinc 5 1, 3) := by decide +kernel
theorem dX4_setFromTape_100 : decode cX4_setFromTape 100 = .ok (.goto (-37), 3) := by decide +kernel
theorem dX4_setFromTape_103 : decode cX4_setFromTape 103 = .ok (.aload_n 0, 1) := by decide +kernel
theorem dX4_setFromTape_104 : decode cX4_setFromTape 104 = .ok (.iconst 0, 1) := by decide +kernel
theorem dX4_setFromTape_105 : decode cX4_setFromTape 105 = .ok (.putfield 24, 3) := by decide +kernel
theorem dX4_setFromTape_108 : decode cX4_setFromTape 108 = .ok (.iload 4, 2) := by decide +kernel
theorem dX4_setFromTape_110 : decode cX4_setFromTape 110 = .ok (.ireturn, 1) := by decide +kernel
theorem dX4_turnOf_0 : decode cX4_turnOf 0 = .ok (.iload_n 1, 1) := by decide +kernel
theorem dX4_turnOf_1 : decode cX4_turnOf 1 = .ok (.getstatic 28, 3) := by decide +kernel
theorem dX4_turnOf_4 : decode cX4_turnOf 4 = .ok (.arraylength, 1) := by decide +kernel
theorem dX4_turnOf_5 : decode cX4_turnOf 5 = .ok (.if_icmp .ne 7, 3) := by decide +kernel
theorem dX4_turnOf_8 : decode cX4_turnOf 8 = .ok (.iconst 1, 1) := by decide +kernel
theorem dX4_turnOf_9 : decode cX4_turnOf 9 = .ok (.goto 4, 3) := by decide +kernel
theorem dX4_turnOf_12 : decode cX4_turnOf 12 = .ok (.iconst 0, 1) := by decide +kernel
theorem dX4_turnOf_13 : decode cX4_turnOf 13 = .ok (.istore_n 2, 1) := by decide +kernel
theorem dX4_turnOf_14 : decode cX4_turnOf 14 = .ok (.iload_n 0, 1) := by decide +kernel
theorem dX4_turnOf_15 : decode cX4_turnOf 15 = .ok (.tableswitch 87 76 85 #[61, 75, 53, 87, 87, 87, 55, 65, 87, 57], 53) := by decide +kernel
theorem dX4_turnOf_68 : decode cX4_turnOf 68 = .ok (.iconst 0, 1) := by decide +kernel
theorem dX4_turnOf_69 : decode cX4_turnOf 69 = .ok (.ireturn, 1) := by decide +kernel
theorem dX4_turnOf_70 : decode cX4_turnOf 70 = .ok (.iconst 1, 1) := by decide +kernel
theorem dX4_turnOf_71 : decode cX4_turnOf 71 = .ok (.ireturn, 1) := by decide +kernel
theorem dX4_turnOf_72 : decode cX4_turnOf 72 = .ok (.iload_n 1, 1) := by decide +kernel
theorem dX4_turnOf_73 : decode cX4_turnOf 73 = .ok (.iconst 2, 1) := by decide +kernel
theorem dX4_turnOf_74 : decode cX4_turnOf 74 = .ok (.idiv, 1) := by decide +kernel
theorem dX4_turnOf_75 : decode cX4_turnOf 75 = .ok (.ireturn, 1) := by decide +kernel
theorem dX4_turnOf_76 : decode cX4_turnOf 76 = .ok (.iload_n 1, 1) := by decide +kernel
theorem dX4_turnOf_77 : decode cX4_turnOf 77 = .ok (.iconst 1, 1) := by decide +kernel
theorem dX4_turnOf_78 : decode cX4_turnOf 78 = .ok (.isub, 1) := by decide +kernel
theorem dX4_turnOf_79 : decode cX4_turnOf 79 = .ok (.ireturn, 1) := by decide +kernel
theorem dX4_turnOf_80 : decode cX4_turnOf 80 = .ok (.iload_n 2, 1) := by decide +kernel
theorem dX4_turnOf_81 : decode cX4_turnOf 81 = .ok (.ifCond .eq 7, 3) := by decide +kernel
theorem dX4_turnOf_84 : decode cX4_turnOf 84 = .ok (.iconst 2, 1) := by decide +kernel
theorem dX4_turnOf_85 : decode cX4_turnOf 85 = .ok (.goto 4, 3) := by decide +kernel
theorem dX4_turnOf_88 : decode cX4_turnOf 88 = .ok (.iconst (-1), 1) := by decide +kernel
theorem dX4_turnOf_89 : decode cX4_turnOf 89 = .ok (.ireturn, 1) := by decide +kernel
theorem dX4_turnOf_90 : decode cX4_turnOf 90 = .ok (.iload_n 2, 1) := by decide +kernel
theorem dX4_turnOf_91 : decode cX4_turnOf 91 = .ok (.ifCond .eq 9, 3) := by decide +kernel
theorem dX4_turnOf_94 : decode cX4_turnOf 94 = .ok (.iload_n 1, 1) := by decide +kernel
theorem dX4_turnOf_95 : decode cX4_turnOf 95 = .ok (.iconst 2, 1) := by decide +kernel
theorem dX4_turnOf_96 : decode cX4_turnOf 96 = .ok (.isub, 1) := by decide +kernel
theorem dX4_turnOf_97 : decode cX4_turnOf 97 = .ok (.goto 4, 3) := by decide +kernel
theorem dX4_turnOf_100 : decode cX4_turnOf 100 = .ok (.iconst (-1), 1) := by decide +kernel
theorem dX4_turnOf_101 : decode cX4_turnOf 101 = .ok (.ireturn, 1) := by decide +kernel
theorem dX4_turnOf_102 : decode cX4_turnOf 102 = .ok (.iconst (-1), 1) := by decide +kernel
theorem dX4_turnOf_103 : decode cX4_turnOf 103 = .ok (.ireturn, 1) := by decide +kernel
theorem dX5_init_0 : decode cX5_init 0 = .ok (.aload_n 0, 1) := by decide +kernel
theorem dX5_init_1 : decode cX5_init 1 = .ok (.invokespecial 3, 3) := by decide +kernel
theorem dX5_init_4 : decode cX5_init 4 = .ok (.aload_n 0, 1) := by decide +kernel
theorem dX5_init_5 : decode cX5_init 5 = .ok (.iconst (-1), 1) := by decide +kernel
theorem dX5_init_6 : decode cX5_init 6 = .ok (.putfield 9, 3) := by decide +kernel
theorem dX5_init_9 : decode cX5_init 9 = .ok (.aload_n 0, 1) := by decide +kernel
theorem dX5_init_10 : decode cX5_init 10 = .ok (.bipush 60, 2) := by decide +kernel
theorem dX5_init_12 : decode cX5_init 12 = .ok (.newarray .int, 2) := by decide +kernel
theorem dX5_init_14 : decode cX5_init 14 = .ok (.putfield 15, 3) := by decide +kernel
theorem dX5_init_17 : decode cX5_init 17 = .ok (.return_, 1) := by decide +kernel
set_option maxRecDepth 20000 in
theorem ggX5_hold_J7_fill_53178 : GoodIn wsX5_hold wsJ7_fill_53178 := goodIn_r _ [7] (by decide +kernel) (by decide +kernel)
set_option maxRecDepth 20000 in
theorem gX5_hold_J7_fill_53178 : GoodIn wsX5_hold (va_wsS RX5 22 yJ7_fill_53178 wsJ7_fill_53178) := goodIn_app (goodIn_of _ (by decide +kernel)) ggX5_hold_J7_fill_53178
theorem dX5_hold_0 : decode cX5_hold 0 = .ok (.aload_n 0, 1) := by decide +kernel
theorem dX5_hold_1 : decode cX5_hold 1 = .ok (.iload_n 1, 1) := by decide +kernel
theorem dX5_hold_2 : decode cX5_hold 2 = .ok (.putfield 9, 3) := by decide +kernel
theorem dX5_hold_5 : decode cX5_hold 5 = .ok (.aload_n 0, 1) := by decide +kernel
theorem dX5_hold_6 : decode cX5_hold 6 = .ok (.iload_n 2, 1) := by decide +kernel
theorem dX5_hold_7 : decode cX5_hold 7 = .ok (.putfield 19, 3) := by decide +kernel
theorem dX5_hold_10 : decode cX5_hold 10 = .ok (.aload_n 0, 1) := by decide +kernel
theorem dX5_hold_11 : decode cX5_hold 11 = .ok (.getfield 15, 3) := by decide +kernel
theorem dX5_hold_14 : decode cX5_hold 14 = .ok (.iconst 0, 1) := by decide +kernel
theorem dX5_hold_15 : decode cX5_hold 15 = .ok (.invokestatic 22, 3) := by decide +kernel
theorem dX5_hold_18 : decode cX5_hold 18 = .ok (.return_, 1) := by decide +kernel
theorem dX5_isNothing_0 : decode cX5_isNothing 0 = .ok (.aload_n 0, 1) := by decide +kernel
theorem dX5_isNothing_1 : decode cX5_isNothing 1 = .ok (.getfield 9, 3) := by decide +kernel
theorem dX5_isNothing_4 : decode cX5_isNothing 4 = .ok (.iconst (-1), 1) := by decide +kernel
theorem dX5_isNothing_5 : decode cX5_isNothing 5 = .ok (.if_icmp .ne 7, 3) := by decide +kernel
theorem dX5_isNothing_8 : decode cX5_isNothing 8 = .ok (.iconst 1, 1) := by decide +kernel
theorem dX5_isNothing_9 : decode cX5_isNothing 9 = .ok (.goto 4, 3) := by decide +kernel
theorem dX5_isNothing_12 : decode cX5_isNothing 12 = .ok (.iconst 0, 1) := by decide +kernel
theorem dX5_isNothing_13 : decode cX5_isNothing 13 = .ok (.ireturn, 1) := by decide +kernel
set_option maxRecDepth 20000 in
theorem ggX5_foundAs_X5_isNothing : GoodIn wsX5_foundAs wsX5_isNothing := goodIn_r _ [6, 1, 7, 8, 9] (by decide +kernel) (by decide +kernel)
set_option maxRecDepth 20000 in
theorem gX5_foundAs_X5_isNothing : GoodIn wsX5_foundAs (wsV RX5 28 RX5 yX5_isNothing wsX5_isNothing) := goodIn_app (goodIn_of _ (by decide +kernel)) ggX5_foundAs_X5_isNothing
theorem dX5_foundAs_0 : decode cX5_foundAs 0 = .ok (.aload_n 0, 1) := by decide +kernel
theorem dX5_foundAs_1 : decode cX5_foundAs 1 = .ok (.invokevirtual 28, 3) := by decide +kernel
theorem dX5_foundAs_4 : decode cX5_foundAs 4 = .ok (.ifCond .eq 6, 3) := by decide +kernel
theorem dX5_foundAs_7 : decode cX5_foundAs 7 = .ok (.bipush (-11), 2) := by decide +kernel
theorem dX5_foundAs_9 : decode cX5_foundAs 9 = .ok (.ireturn, 1) := by decide +kernel
theorem dX5_foundAs_10 : decode cX5_foundAs 10 = .ok (.aload_n 0, 1) := by decide +kernel
theorem dX5_foundAs_11 : decode cX5_foundAs 11 = .ok (.getfield 9, 3) := by decide +kernel
theorem dX5_foundAs_14 : decode cX5_foundAs 14 = .ok (.iload_n 1, 1) := by decide +kernel
theorem dX5_foundAs_15 : decode cX5_foundAs 15 = .ok (.if_icmp .ne 7, 3) := by decide +kernel
theorem dX5_foundAs_18 : decode cX5_foundAs 18 = .ok (.iconst 0, 1) := by decide +kernel
theorem dX5_foundAs_19 : decode cX5_foundAs 19 = .ok (.goto 5, 3) := by decide +kernel
theorem dX5_foundAs_22 : decode cX5_foundAs 22 = .ok (.bipush (-12), 2) := by decide +kernel
theorem dX5_foundAs_24 : decode cX5_foundAs 24 = .ok (.ireturn, 1) := by decide +kernel
theorem dX5_hasItems_0 : decode cX5_hasItems 0 = .ok (.iload_n 1, 1) := by decide +kernel
theorem dX5_hasItems_1 : decode cX5_hasItems 1 = .ok (.ifCond .lt 21, 3) := by decide +kernel
theorem dX5_hasItems_4 : decode cX5_hasItems 4 = .ok (.iload_n 2, 1) := by decide +kernel
theorem dX5_hasItems_5 : decode cX5_hasItems 5 = .ok (.ifCond .lt 17, 3) := by decide +kernel
theorem dX5_hasItems_8 : decode cX5_hasItems 8 = .ok (.iload_n 1, 1) := by decide +kernel
theorem dX5_hasItems_9 : decode cX5_hasItems 9 = .ok (.aload_n 0, 1) := by decide +kernel
theorem dX5_hasItems_10 : decode cX5_hasItems 10 = .ok (.getfield 19, 3) := by decide +kernel
theorem dX5_hasItems_13 : decode cX5_hasItems 13 = .ok (.iload_n 2, 1) := by decide +kernel
theorem dX5_hasItems_14 : decode cX5_hasItems 14 = .ok (.isub, 1) := by decide +kernel
theorem dX5_hasItems_15 : decode cX5_hasItems 15 = .ok (.if_icmp .gt 7, 3) := by decide +kernel
theorem dX5_hasItems_18 : decode cX5_hasItems 18 = .ok (.iconst 1, 1) := by decide +kernel
theorem dX5_hasItems_19 : decode cX5_hasItems 19 = .ok (.goto 4, 3) := by decide +kernel
theorem dX5_hasItems_22 : decode cX5_hasItems 22 = .ok (.iconst 0, 1) := by decide +kernel
theorem dX5_hasItems_23 : decode cX5_hasItems 23 = .ok (.ireturn, 1) := by decide +kernel
theorem dX5_lowestBits_0 : decode cX5_lowestBits 0 = .ok (.aload_n 0, 1) := by decide +kernel
theorem dX5_lowestBits_1 : decode cX5_lowestBits 1 = .ok (.getfield 9, 3) := by decide +kernel
theorem dX5_lowestBits_4 : decode cX5_lowestBits 4 = .ok (.lookupswitch 34 #[(0, 28), (1, 31)], 28) := by decide +kernel
theorem dX5_lowestBits_32 : decode cX5_lowestBits 32 = .ok (.iload_n 1, 1) := by decide +kernel
theorem dX5_lowestBits_33 : decode cX5_lowestBits 33 = .ok (.i2b, 1) := by decide +kernel
theorem dX5_lowestBits_34 : decode cX5_lowestBits 34 = .ok (.ireturn, 1) := by decide +kernel
theorem dX5_lowestBits_35 : decode cX5_lowestBits 35 = .ok (.iload_n 1, 1) := by decide +kernel
theorem dX5_lowestBits_36 : decode cX5_lowestBits 36 = .ok (.i2s, 1) := by decide +kernel
theorem dX5_lowestBits_37 : decode cX5_lowestBits 37 = .ok (.ireturn, 1) := by decide +kernel
theorem dX5_lowestBits_38 : decode cX5_lowestBits 38 = .ok (.iload_n 1, 1) := by decide +kernel
theorem dX5_lowestBits_39 : decode cX5_lowestBits 39 = .ok (.ireturn, 1) := by decide +kernel
set_option maxRecDepth 20000 in
theorem ggX5_areColours_X6_isWithin : GoodIn wsX5_areColours wsX6_isWithin := goodIn_r _ [4] (by decide +kernel) (by decide +kernel)
set_option maxRecDepth 20000 in
theorem gX5_areColours_X6_isWithin_n32 : GoodIn wsX5_areColours (wsX6_isWithin) := ggX5_areColours_X6_isWithin
theorem dX5_areColours_0 : decode cX5_areColours 0 = .ok (.iload_n 1, 1) := by decide +kernel
theorem dX5_areColours_1 : decode cX5_areColours 1 = .ok (.istore 4, 2) := by decide +kernel
theorem dX5_areColours_3 : decode cX5_areColours 3 = .ok (.iload 4, 2) := by decide +kernel
theorem dX5_areColours_5 : decode cX5_areColours 5 = .ok (.iload_n 1, 1) := by decide +kernel
theorem dX5_areColours_6 : decode cX5_areColours 6 = .ok (.iload_n 2, 1) := by decide +kernel
theorem dX5_areColours_7 : decode cX5_areColours 7 = .ok (.iadd, 1) := by decide +kernel
theorem dX5_areColours_8 : decode cX5_areColours 8 = .ok (.if_icmp .ge 28, 3) := by decide +kernel
theorem dX5_areColours_11 : decode cX5_areColours 11 = .ok (.aload_n 0, 1) := by decide +kernel
theorem dX5_areColours_12 : decode cX5_areColours 12 = .ok (.getfield 15, 3) := by decide +kernel
theorem dX5_areColours_15 : decode cX5_areColours 15 = .ok (.iload 4, 2) := by decide +kernel
theorem dX5_areColours_17 : decode cX5_areColours 17 = .ok (.iaload, 1) := by decide +kernel
theorem dX5_areColours_18 : decode cX5_areColours 18 = .ok (.iconst 0, 1) := by decide +kernel
theorem dX5_areColours_19 : decode cX5_areColours 19 = .ok (.iload_n 3, 1) := by decide +kernel
theorem dX5_areColours_20 : decode cX5_areColours 20 = .ok (.iconst 1, 1) := by decide +kernel
theorem dX5_areColours_21 : decode cX5_areColours 21 = .ok (.isub, 1) := by decide +kernel
theorem dX5_areColours_22 : decode cX5_areColours 22 = .ok (.invokestatic 32, 3) := by decide +kernel
theorem dX5_areColours_25 : decode cX5_areColours 25 = .ok (.ifCond .ne 5, 3) := by decide +kernel
theorem dX5_areColours_28 : decode cX5_areColours 28 = .ok (.iconst 0, 1) := by decide +kernel
theorem dX5_areColours_29 : decode cX5_areColours 29 = .ok (.ireturn, 1) := by decide +kernel
theorem dX5_areColours_30 : decode cX5_areColours 30 = .ok (.iinc 4 1, 3) := by decide +kernel
theorem dX5_areColours_33 : decode cX5_areColours 33 = .ok (.goto (-30), 3) := by decide +kernel
theorem dX5_areColours_36 : decode cX5_areColours 36 = .ok (.iconst 1, 1) := by decide +kernel
theorem dX5_areColours_37 : decode cX5_areColours 37 = .ok (.ireturn, 1) := by decide +kernel
set_option maxRecDepth 20000 in
theorem ggX6_init_X1_init : GoodIn wsX6_init wsX1_init := goodIn_r _ [31, 32, 2, 3, 33, 34, 35, 16, 36, 37, 78, 79, 80, 81] (by decide +kernel) (by decide +kernel)
set_option maxRecDepth 20000 in
theorem gX6_init_X1_init_n11 : GoodIn wsX6_init (wsX1_init) := ggX6_init_X1_init
set_option maxRecDepth 20000 in
theorem ggX6_init_X4_init : GoodIn wsX6_init wsX4_init := goodIn_r _ [39, 40, 2, 3, 41, 16, 42, 43, 91, 92, 93] (by decide +kernel) (by decide +kernel)
set_option maxRecDepth 20000 in
theorem gX6_init_X4_init_n18 : GoodIn wsX6_init (wsX4_init) := ggX6_init_X4_init
set_option maxRecDepth 20000 in
theorem ggX6_init_X0_init : GoodIn wsX6_init wsX0_init := goodIn_r _ [45, 46, 2, 3] (by decide +kernel) (by decide +kernel)
set_option maxRecDepth 20000 in
theorem gX6_init_X0_init_n29 : GoodIn wsX6_init (wsX0_init) := ggX6_init_X0_init
set_option maxRecDepth 20000 in
theorem ggX6_init_X3_init : GoodIn wsX6_init wsX3_init := goodIn_r _ [48, 49, 2, 3, 16, 50, 51, 52, 53, 98, 99, 100, 101, 102] (by decide +kernel) (by decide +kernel)
set_option maxRecDepth 20000 in
theorem gX6_init_X3_init_n36 : GoodIn wsX6_init (wsX3_init) := ggX6_init_X3_init
set_option maxRecDepth 20000 in
theorem ggX6_init_X2_init : GoodIn wsX6_init wsX2_init := goodIn_r _ [55, 56, 2, 3, 57, 14, 15, 58, 59, 16, 60, 61, 44, 45, 46, 94, 95, 96, 97, 103, 104, 105, 106, 107, 108, 109] (by decide +kernel) (by decide +kernel)
set_option maxRecDepth 20000 in
theorem gX6_init_X2_init_n43 : GoodIn wsX6_init (wsX2_init) := ggX6_init_X2_init
set_option maxRecDepth 20000 in
theorem ggX6_init_X5_init : GoodIn wsX6_init wsX5_init := goodIn_r _ [63, 64, 2, 3, 65, 16, 66, 110, 111, 112] (by decide +kernel) (by decide +kernel)
set_option maxRecDepth 20000 in
theorem gX6_init_X5_init_n54 : GoodIn wsX6_init (wsX5_init) := ggX6_init_X5_init
set_option maxRecDepth 20000 in
theorem ggX6_init_X1_directions : GoodIn wsX6_init wsX1_directions := goodIn_r _ [70, 33, 78, 79, 80, 81] (by decide +kernel) (by decide +kernel)
set_option maxRecDepth 20000 in
theorem gX6_init_X1_directions : GoodIn wsX6_init (wsV RX6 55 RX1 yX1_directions wsX1_directions) := goodIn_app (goodIn_of _ (by decide +kernel)) ggX6_init_X1_directions
set_option maxRecDepth 20000 in
theorem ggX6_init_X4_restart : GoodIn wsX6_init wsX4_restart := goodIn_r _ [74, 42, 75, 76, 10, 77, 91, 92, 93] (by decide +kernel) (by decide +kernel)
set_option maxRecDepth 20000 in
theorem gX6_init_X4_restart : GoodIn wsX6_init (wsV RX6 59 RX4 yX4_restart wsX4_restart) := goodIn_app (goodIn_of _ (by decide +kernel)) ggX6_init_X4_restart
theorem dX6_init_0 : decode cX6_init 0 = .ok (.aload_n 0, 1) := by decide +kernel
