theorem dX0_init_0 : decode cX0_init 0 = .ok (.aload_n 0, 1) := by decide +kernel
theorem dX0_init_1 : decode cX0_init 1 = .ok (.invokespecial 1, 3) := by decide +kernel
theorem dX0_init_4 : decode cX0_init 4 = .ok (.return_, 1) := by decide +kernel
theorem dX0_put_0 : decode cX0_put 0 = .ok (.aload_n 0, 1) := by decide +kernel
theorem dX0_put_1 : decode cX0_put 1 = .ok (.iload_n 1, 1) := by decide +kernel
theorem dX0_put_2 : decode cX0_put 2 = .ok (.putfield 7, 3) := by decide +kernel
theorem dX0_put_5 : decode cX0_put 5 = .ok (.aload_n 0, 1) := by decide +kernel
theorem dX0_put_6 : decode cX0_put 6 = .ok (.iload_n 2, 1) := by decide +kernel
theorem dX0_put_7 : decode cX0_put 7 = .ok (.putfield 13, 3) := by decide +kernel
theorem dX0_put_10 : decode cX0_put 10 = .ok (.aload_n 0, 1) := by decide +kernel
theorem dX0_put_11 : decode cX0_put 11 = .ok (.iload_n 3, 1) := by decide +kernel
theorem dX0_put_12 : decode cX0_put 12 = .ok (.putfield 16, 3) := by decide +kernel
theorem dX0_put_15 : decode cX0_put 15 = .ok (.aload_n 0, 1) := by decide +kernel
theorem dX0_put_16 : decode cX0_put 16 = .ok (.iload 4, 2) := by decide +kernel
theorem dX0_put_18 : decode cX0_put 18 = .ok (.putfield 19, 3) := by decide +kernel
theorem dX0_put_21 : decode cX0_put 21 = .ok (.return_, 1) := by decide +kernel
theorem dX1_init_0 : decode cX1_init 0 = .ok (.aload_n 0, 1) := by decide +kernel
theorem dX1_init_1 : decode cX1_init 1 = .ok (.invokespecial 3, 3) := by decide +kernel
theorem dX1_init_4 : decode cX1_init 4 = .ok (.aload_n 0, 1) := by decide +kernel
theorem dX1_init_5 : decode cX1_init 5 = .ok (.iconst 0, 1) := by decide +kernel
theorem dX1_init_6 : decode cX1_init 6 = .ok (.putfield 9, 3) := by decide +kernel
theorem dX1_init_9 : decode cX1_init 9 = .ok (.aload_n 0, 1) := by decide +kernel
theorem dX1_init_10 : decode cX1_init 10 = .ok (.iconst 2, 1) := by decide +kernel
theorem dX1_init_11 : decode cX1_init 11 = .ok (.putfield 15, 3) := by decide +kernel
theorem dX1_init_14 : decode cX1_init 14 = .ok (.aload_n 0, 1) := by decide +kernel
theorem dX1_init_15 : decode cX1_init 15 = .ok (.ldc 18, 2) := by decide +kernel
theorem dX1_init_17 : decode cX1_init 17 = .ok (.newarray .int, 2) := by decide +kernel
theorem dX1_init_19 : decode cX1_init 19 = .ok (.putfield 19, 3) := by decide +kernel
theorem dX1_init_22 : decode cX1_init 22 = .ok (.aload_n 0, 1) := by decide +kernel
theorem dX1_init_23 : decode cX1_init 23 = .ok (.ldc 18, 2) := by decide +kernel
theorem dX1_init_25 : decode cX1_init 25 = .ok (.newarray .int, 2) := by decide +kernel
theorem dX1_init_27 : decode cX1_init 27 = .ok (.putfield 23, 3) := by decide +kernel
theorem dX1_init_30 : decode cX1_init 30 = .ok (.return_, 1) := by decide +kernel
set_option maxRecDepth 20000 in
theorem ggX1_restart_J7_fill_53178 : GoodIn wsX1_restart wsJ7_fill_53178 := goodIn_r _ [8] (by decide +kernel) (by decide +kernel)
set_option maxRecDepth 20000 in
theorem gX1_restart_J7_fill_53178 : GoodIn wsX1_restart (va_wsS RX1 26 yJ7_fill_53178 wsJ7_fill_53178) := goodIn_app (goodIn_of _ (by decide +kernel)) ggX1_restart_J7_fill_53178
theorem dX1_restart_0 : decode cX1_restart 0 = .ok (.aload_n 0, 1) := by decide +kernel
theorem dX1_restart_1 : decode cX1_restart 1 = .ok (.iload_n 1, 1) := by decide +kernel
theorem dX1_restart_2 : decode cX1_restart 2 = .ok (.putfield 9, 3) := by decide +kernel
theorem dX1_restart_5 : decode cX1_restart 5 = .ok (.aload_n 0, 1) := by decide +kernel
theorem dX1_restart_6 : decode cX1_restart 6 = .ok (.iload_n 2, 1) := by decide +kernel
theorem dX1_restart_7 : decode cX1_restart 7 = .ok (.putfield 15, 3) := by decide +kernel
theorem dX1_restart_10 : decode cX1_restart 10 = .ok (.aload_n 0, 1) := by decide +kernel
theorem dX1_restart_11 : decode cX1_restart 11 = .ok (.getfield 19, 3) := by decide +kernel
theorem dX1_restart_14 : decode cX1_restart 14 = .ok (.iconst 0, 1) := by decide +kernel
theorem dX1_restart_15 : decode cX1_restart 15 = .ok (.invokestatic 26, 3) := by decide +kernel
theorem dX1_restart_18 : decode cX1_restart 18 = .ok (.aload_n 0, 1) := by decide +kernel
theorem dX1_restart_19 : decode cX1_restart 19 = .ok (.getfield 23, 3) := by decide +kernel
theorem dX1_restart_22 : decode cX1_restart 22 = .ok (.iconst 0, 1) := by decide +kernel
theorem dX1_restart_23 : decode cX1_restart 23 = .ok (.invokestatic 26, 3) := by decide +kernel
theorem dX1_restart_26 : decode cX1_restart 26 = .ok (.return_, 1) := by decide +kernel
theorem dX1_directions_0 : decode cX1_directions 0 = .ok (.aload_n 0, 1) := by decide +kernel
theorem dX1_directions_1 : decode cX1_directions 1 = .ok (.getfield 9, 3) := by decide +kernel
theorem dX1_directions_4 : decode cX1_directions 4 = .ok (.iconst 1, 1) := by decide +kernel
theorem dX1_directions_5 : decode cX1_directions 5 = .ok (.if_icmp .ne 10, 3) := by decide +kernel
theorem dX1_directions_8 : decode cX1_directions 8 = .ok (.getstatic 32, 3) := by decide +kernel
theorem dX1_directions_11 : decode cX1_directions 11 = .ok (.arraylength, 1) := by decide +kernel
theorem dX1_directions_12 : decode cX1_directions 12 = .ok (.goto 7, 3) := by decide +kernel
theorem dX1_directions_15 : decode cX1_directions 15 = .ok (.getstatic 35, 3) := by decide +kernel
theorem dX1_directions_18 : decode cX1_directions 18 = .ok (.arraylength, 1) := by decide +kernel
theorem dX1_directions_19 : decode cX1_directions 19 = .ok (.ireturn, 1) := by decide +kernel
theorem dX1_stepX_0 : decode cX1_stepX 0 = .ok (.aload_n 0, 1) := by decide +kernel
theorem dX1_stepX_1 : decode cX1_stepX 1 = .ok (.getfield 9, 3) := by decide +kernel
theorem dX1_stepX_4 : decode cX1_stepX 4 = .ok (.iconst 1, 1) := by decide +kernel
theorem dX1_stepX_5 : decode cX1_stepX 5 = .ok (.if_icmp .ne 11, 3) := by decide +kernel
theorem dX1_stepX_8 : decode cX1_stepX 8 = .ok (.getstatic 32, 3) := by decide +kernel
theorem dX1_stepX_11 : decode cX1_stepX 11 = .ok (.iload_n 1, 1) := by decide +kernel
theorem dX1_stepX_12 : decode cX1_stepX 12 = .ok (.iaload, 1) := by decide +kernel
theorem dX1_stepX_13 : decode cX1_stepX 13 = .ok (.goto 8, 3) := by decide +kernel
theorem dX1_stepX_16 : decode cX1_stepX 16 = .ok (.getstatic 35, 3) := by decide +kernel
theorem dX1_stepX_19 : decode cX1_stepX 19 = .ok (.iload_n 1, 1) := by decide +kernel
theorem dX1_stepX_20 : decode cX1_stepX 20 = .ok (.iaload, 1) := by decide +kernel
theorem dX1_stepX_21 : decode cX1_stepX 21 = .ok (.ireturn, 1) := by decide +kernel
theorem dX1_stepY_0 : decode cX1_stepY 0 = .ok (.aload_n 0, 1) := by decide +kernel
theorem dX1_stepY_1 : decode cX1_stepY 1 = .ok (.getfield 9, 3) := by decide +kernel
theorem dX1_stepY_4 : decode cX1_stepY 4 = .ok (.iconst 1, 1) := by decide +kernel
theorem dX1_stepY_5 : decode cX1_stepY 5 = .ok (.if_icmp .ne 11, 3) := by decide +kernel
theorem dX1_stepY_8 : decode cX1_stepY 8 = .ok (.getstatic 38, 3) := by decide +kernel
theorem dX1_stepY_11 : decode cX1_stepY 11 = .ok (.iload_n 1, 1) := by decide +kernel
theorem dX1_stepY_12 : decode cX1_stepY 12 = .ok (.iaload, 1) := by decide +kernel
theorem dX1_stepY_13 : decode cX1_stepY 13 = .ok (.goto 8, 3) := by decide +kernel
theorem dX1_stepY_16 : decode cX1_stepY 16 = .ok (.getstatic 41, 3) := by decide +kernel
theorem dX1_stepY_19 : decode cX1_stepY 19 = .ok (.iload_n 1, 1) := by decide +kernel
theorem dX1_stepY_20 : decode cX1_stepY 20 = .ok (.iaload, 1) := by decide +kernel
theorem dX1_stepY_21 : decode cX1_stepY 21 = .ok (.ireturn, 1) := by decide +kernel
set_option maxRecDepth 20000 in
theorem ggX1_turned_X1_directions : GoodIn wsX1_turned wsX1_directions := goodIn_r _ [5, 6, 7, 8, 9, 10] (by decide +kernel) (by decide +kernel)
set_option maxRecDepth 20000 in
theorem gX1_turned_X1_directions : GoodIn wsX1_turned (wsV RX1 44 RX1 yX1_directions wsX1_directions) := goodIn_app (goodIn_of _ (by decide +kernel)) ggX1_turned_X1_directions
theorem dX1_turned_0 : decode cX1_turned 0 = .ok (.iload_n 1, 1) := by decide +kernel
theorem dX1_turned_1 : decode cX1_turned 1 = .ok (.iload_n 2, 1) := by decide +kernel
theorem dX1_turned_2 : decode cX1_turned 2 = .ok (.iadd, 1) := by decide +kernel
theorem dX1_turned_3 : decode cX1_turned 3 = .ok (.istore_n 3, 1) := by decide +kernel
theorem dX1_turned_4 : decode cX1_turned 4 = .ok (.iload_n 3, 1) := by decide +kernel
theorem dX1_turned_5 : decode cX1_turned 5 = .ok (.ifCond .ge 10, 3) := by decide +kernel
theorem dX1_turned_8 : decode cX1_turned 8 = .ok (.iload_n 3, 1) := by decide +kernel
theorem dX1_turned_9 : decode cX1_turned 9 = .ok (.aload_n 0, 1) := by decide +kernel
theorem dX1_turned_10 : decode cX1_turned 10 = .ok (.invokevirtual 44, 3) := by decide +kernel
theorem dX1_turned_13 : decode cX1_turned 13 = .ok (.iadd, 1) := by decide +kernel
theorem dX1_turned_14 : decode cX1_turned 14 = .ok (.ireturn, 1) := by decide +kernel
theorem dX1_turned_15 : decode cX1_turned 15 = .ok (.iload_n 3, 1) := by decide +kernel
theorem dX1_turned_16 : decode cX1_turned 16 = .ok (.aload_n 0, 1) := by decide +kernel
theorem dX1_turned_17 : decode cX1_turned 17 = .ok (.invokevirtual 44, 3) := by decide +kernel
theorem dX1_turned_20 : decode cX1_turned 20 = .ok (.if_icmp .ge 7, 3) := by decide +kernel
theorem dX1_turned_23 : decode cX1_turned 23 = .ok (.iload_n 3, 1) := by decide +kernel
theorem dX1_turned_24 : decode cX1_turned 24 = .ok (.goto 9, 3) := by decide +kernel
theorem dX1_turned_27 : decode cX1_turned 27 = .ok (.iload_n 3, 1) := by decide +kernel
theorem dX1_turned_28 : decode cX1_turned 28 = .ok (.aload_n 0, 1) := by decide +kernel
theorem dX1_turned_29 : decode cX1_turned 29 = .ok (.invokevirtual 44, 3) := by decide +kernel
theorem dX1_turned_32 : decode cX1_turned 32 = .ok (.isub, 1) := by decide +kernel
theorem dX1_turned_33 : decode cX1_turned 33 = .ok (.ireturn, 1) := by decide +kernel
set_option maxRecDepth 20000 in
theorem ggX2_init_X0_init : GoodIn wsX2_init wsX0_init := goodIn_r _ [13, 14, 2, 3] (by decide +kernel) (by decide +kernel)
set_option maxRecDepth 20000 in
theorem gX2_init_X0_init_n11 : GoodIn wsX2_init (wsX0_init) := ggX2_init_X0_init
theorem dX2_init_0 : decode cX2_init 0 = .ok (.aload_n 0, 1) := by decide +kernel
theorem dX2_init_1 : decode cX2_init 1 = .ok (.invokespecial 3, 3) := by decide +kernel
theorem dX2_init_4 : decode cX2_init 4 = .ok (.aload_n 0, 1) := by decide +kernel
theorem dX2_init_5 : decode cX2_init 5 = .ok (.new 9, 3) := by decide +kernel
theorem dX2_init_8 : decode cX2_init 8 = .ok (.dup, 1) := by decide +kernel
theorem dX2_init_9 : decode cX2_init 9 = .ok (.invokespecial 11, 3) := by decide +kernel
theorem dX2_init_12 : decode cX2_init 12 = .ok (.putfield 12, 3) := by decide +kernel
theorem dX2_init_15 : decode cX2_init 15 = .ok (.aload_n 0, 1) := by decide +kernel
theorem dX2_init_16 : decode cX2_init 16 = .ok (.ldc 18, 2) := by decide +kernel
theorem dX2_init_18 : decode cX2_init 18 = .ok (.newarray .int, 2) := by decide +kernel
theorem dX2_init_20 : decode cX2_init 20 = .ok (.putfield 19, 3) := by decide +kernel
theorem dX2_init_23 : decode cX2_init 23 = .ok (.aload_n 0, 1) := by decide +kernel
theorem dX2_init_24 : decode cX2_init 24 = .ok (.ldc 18, 2) := by decide +kernel
theorem dX2_init_26 : decode cX2_init 26 = .ok (.newarray .int, 2) := by decide +kernel
theorem dX2_init_28 : decode cX2_init 28 = .ok (.putfield 23, 3) := by decide +kernel
theorem dX2_init_31 : decode cX2_init 31 = .ok (.return_, 1) := by decide +kernel
theorem dX2_forget_0 : decode cX2_forget 0 = .ok (.aload_n 0, 1) := by decide +kernel
theorem dX2_forget_1 : decode cX2_forget 1 = .ok (.iconst 0, 1) := by decide +kernel
theorem dX2_forget_2 : decode cX2_forget 2 = .ok (.putfield 26, 3) := by decide +kernel
theorem dX2_forget_5 : decode cX2_forget 5 = .ok (.return_, 1) := by decide +kernel
theorem dX2_spoil_0 : decode cX2_spoil 0 = .ok (.aload_n 0, 1) := by decide +kernel
theorem dX2_spoil_1 : decode cX2_spoil 1 = .ok (.iconst 1, 1) := by decide +kernel
theorem dX2_spoil_2 : decode cX2_spoil 2 = .ok (.putfield 30, 3) := by decide +kernel
theorem dX2_spoil_5 : decode cX2_spoil 5 = .ok (.return_, 1) := by decide +kernel
theorem dX2_tread_0 : decode cX2_tread 0 = .ok (.iconst 0, 1) := by decide +kernel
theorem dX2_tread_1 : decode cX2_tread 1 = .ok (.istore_n 3, 1) := by decide +kernel
theorem dX2_tread_2 : decode cX2_tread 2 = .ok (.iload_n 3, 1) := by decide +kernel
theorem dX2_tread_3 : decode cX2_tread 3 = .ok (.iload_n 2, 1) := by decide +kernel
theorem dX2_tread_4 : decode cX2_tread 4 = .ok (.if_icmp .ge 46, 3) := by decide +kernel
theorem dX2_tread_7 : decode cX2_tread 7 = .ok (.aload_n 0, 1) := by decide +kernel
theorem dX2_tread_8 : decode cX2_tread 8 = .ok (.getfield 26, 3) := by decide +kernel
theorem dX2_tread_11 : decode cX2_tread 11 = .ok (.ifCond .eq 39, 3) := by decide +kernel
theorem dX2_tread_14 : decode cX2_tread 14 = .ok (.aload_n 0, 1) := by decide +kernel
theorem dX2_tread_15 : decode cX2_tread 15 = .ok (.getfield 23, 3) := by decide +kernel
theorem dX2_tread_18 : decode cX2_tread 18 = .ok (.aload_n 1, 1) := by decide +kernel
theorem dX2_tread_19 : decode cX2_tread 19 = .ok (.iload_n 3, 1) := by decide +kernel
theorem dX2_tread_20 : decode cX2_tread 20 = .ok (.iaload, 1) := by decide +kernel
theorem dX2_tread_21 : decode cX2_tread 21 = .ok (.iaload, 1) := by decide +kernel
theorem dX2_tread_22 : decode cX2_tread 22 = .ok (.ifCond .ne 22, 3) := by decide +kernel
theorem dX2_tread_25 : decode cX2_tread 25 = .ok (.aload_n 0, 1) := by decide +kernel
theorem dX2_tread_26 : decode cX2_tread 26 = .ok (.getfield 23, 3) := by decide +kernel
theorem dX2_tread_29 : decode cX2_tread 29 = .ok (.aload_n 1, 1) := by decide +kernel
theorem dX2_tread_30 : decode cX2_tread 30 = .ok (.iload_n 3, 1) := by decide +kernel
theorem dX2_tread_31 : decode cX2_tread 31 = .ok (.iaload, 1) := by decide +kernel
theorem dX2_tread_32 : decode cX2_tread 32 = .ok (.iconst 1, 1) := by decide +kernel
theorem dX2_tread_33 : decode cX2_tread 33 = .ok (.iastore, 1) := by decide +kernel
theorem dX2_tread_34 : decode cX2_tread 34 = .ok (.aload_n 0, 1) := by decide +kernel
theorem dX2_tread_35 : decode cX2_tread 35 = .ok (.dup, 1) := by decide +kernel
theorem dX2_tread_36 : decode cX2_tread 36 = .ok (.getfield 65, 3) := by decide +kernel
theorem dX2_tread_39 : decode cX2_tread 39 = .ok (.iconst 1, 1) := by decide +kernel
theorem dX2_tread_40 : decode cX2_tread 40 = .ok (.iadd, 1) := by decide +kernel
theorem dX2_tread_41 : decode cX2_tread 41 = .ok (.putfield 65, 3) := by decide +kernel
theorem dX2_tread_44 : decode cX2_tread 44 = .ok (.iinc 3 1, 3) := by decide +kernel
theorem dX2_tread_47 : decode cX2_tread 47 = .ok (.goto (-45), 3) := by decide +kernel
theorem dX2_tread_50 : decode cX2_tread 50 = .ok (.return_, 1) := by decide +kernel
theorem dX3_init_0 : decode cX3_init 0 = .ok (.aload_n 0, 1) := by decide +kernel
theorem dX3_init_1 : decode cX3_init 1 = .ok (.invokespecial 3, 3) := by decide +kernel
theorem dX3_init_4 : decode cX3_init 4 = .ok (.aload_n 0, 1) := by decide +kernel
theorem dX3_init_5 : decode cX3_init 5 = .ok (.bipush 60, 2) := by decide +kernel
theorem dX3_init_7 : decode cX3_init 7 = .ok (.newarray .int, 2) := by decide +kernel
theorem dX3_init_9 : decode cX3_init 9 = .ok (.putfield 9, 3) := by decide +kernel
theorem dX3_init_12 : decode cX3_init 12 = .ok (.aload_n 0, 1) := by decide +kernel
theorem dX3_init_13 : decode cX3_init 13 = .ok (.bipush 60, 2) := by decide +kernel
theorem dX3_init_15 : decode cX3_init 15 = .ok (.newarray .int, 2) := by decide +kernel
theorem dX3_init_17 : decode cX3_init 17 = .ok (.putfield 15, 3) := by decide +kernel
theorem dX3_init_20 : decode cX3_init 20 = .ok (.aload_n 0, 1) := by decide +kernel
theorem dX3_init_21 : decode cX3_init 21 = .ok (.bipush 60, 2) := by decide +kernel
theorem dX3_init_23 : decode cX3_init 23 = .ok (.newarray .int, 2) := by decide +kernel
theorem dX3_init_25 : decode cX3_init 25 = .ok (.putfield 18, 3) := by decide +kernel
theorem dX3_init_28 : decode cX3_init 28 = .ok (.aload_n 0, 1) := by decide +kernel
theorem dX3_init_29 : decode cX3_init 29 = .ok (.bipush 60, 2) := by decide +kernel
theorem dX3_init_31 : decode cX3_init 31 = .ok (.newarray .int, 2) := by decide +kernel
theorem dX3_init_33 : decode cX3_init 33 = .ok (.putfield 21, 3) := by decide +kernel
theorem dX3_init_36 : decode cX3_init 36 = .ok (.return_, 1) := by decide +kernel
theorem dX3_forget_0 : decode cX3_forget 0 = .ok (.aload_n 0, 1) := by decide +kernel
theorem dX3_forget_1 : decode cX3_forget 1 = .ok (.iconst 0, 1) := by decide +kernel
theorem dX3_forget_2 : decode cX3_forget 2 = .ok (.putfield 24, 3) := by decide +kernel
theorem dX3_forget_5 : decode cX3_forget 5 = .ok (.return_, 1) := by decide +kernel
theorem dX3_keep_0 : decode cX3_keep 0 = .ok (.aload_n 0, 1) := by decide +kernel
theorem dX3_keep_1 : decode cX3_keep 1 = .ok (.getfield 24, 3) := by decide +kernel
theorem dX3_keep_4 : decode cX3_keep 4 = .ok (.bipush 60, 2) := by decide +kernel
theorem dX3_keep_6 : decode cX3_keep 6 = .ok (.if_icmp .ge 44, 3) := by decide +kernel
theorem dX3_keep_9 : decode cX3_keep 9 = .ok (.aload_n 0, 1) := by decide +kernel
theorem dX3_keep_10 : decode cX3_keep 10 = .ok (.getfield 9, 3) := by decide +kernel
theorem dX3_keep_13 : decode cX3_keep 13 = .ok (.aload_n 0, 1) := by decide +kernel
theorem dX3_keep_14 : decode cX3_keep 14 = .ok (.getfield 24, 3) := by decide +kernel
theorem dX3_keep_17 : decode cX3_keep 17 = .ok (.iload_n 1, 1) := by decide +kernel
theorem dX3_keep_18 : decode cX3_keep 18 = .ok (.iastore, 1) := by decide +kernel
theorem dX3_keep_19 : decode cX3_keep 19 = .ok (.aload_n 0, 1) := by decide +kernel
theorem dX3_keep_20 : decode cX3_keep 20 = .ok (.getfield 15, 3) := by decide +kernel
theorem dX3_keep_23 : decode cX3_keep 23 = .ok (.aload_n 0, 1) := by decide +kernel
theorem dX3_keep_24 : decode cX3_keep 24 = .ok (.getfield 24, 3) := by decide +kernel
theorem dX3_keep_27 : decode cX3_keep 27 = .ok (.iload_n 2, 1) := by decide +kernel
theorem dX3_keep_28 : decode cX3_keep 28 = .ok (.iastore, 1) := by decide +kernel
theorem dX3_keep_29 : decode cX3_keep 29 = .ok (.aload_n 0, 1) := by decide +kernel
theorem dX3_keep_30 : decode cX3_keep 30 = .ok (.getfield 18, 3) := by decide +kernel
theorem dX3_keep_33 : decode cX3_keep 33 = .ok (.aload_n 0, 1) := by decide +kernel
theorem dX3_keep_34 : decode cX3_keep 34 = .ok (.getfield 24, 3) := by decide +kernel
theorem dX3_keep_37 : decode cX3_keep 37 = .ok (.iload_n 3, 1) := by decide +kernel
theorem dX3_keep_38 : decode cX3_keep 38 = .ok (.iastore, 1) := by decide +kernel
theorem dX3_keep_39 : decode cX3_keep 39 = .ok (.aload_n 0, 1) := by decide +kernel
theorem dX3_keep_40 : decode cX3_keep 40 = .ok (.getfield 21, 3) := by decide +kernel
theorem dX3_keep_43 : decode cX3_keep 43 = .ok (.aload_n 0, 1) := by decide +kernel
theorem dX3_keep_44 : decode cX3_keep 44 = .ok (.getfield 24, 3) := by decide +kernel
theorem dX3_keep_47 : decode cX3_keep 47 = .ok (.iload 4, 2) := by decide +kernel
theorem dX3_keep_49 : decode cX3_keep 49 = .ok (.iastore, 1) := by decide +kernel
theorem dX3_keep_50 : decode cX3_keep 50 = .ok (.aload_n 0, 1) := by decide +kernel
theorem dX3_keep_51 : decode cX3_keep 51 = .ok (.dup, 1) := by decide +kernel
theorem dX3_keep_52 : decode cX3_keep 52 = .ok (.getfield 24, 3) := by decide +kernel
theorem dX3_keep_55 : decode cX3_keep 55 = .ok (.iconst 1, 1) := by decide +kernel
theorem dX3_keep_56 : decode cX3_keep 56 = .ok (.iadd, 1) := by decide +kernel
theorem dX3_keep_57 : decode cX3_keep 57 = .ok (.putfield 24, 3) := by decide +kernel
theorem dX3_keep_60 : decode cX3_keep 60 = .ok (.return_, 1) := by decide +kernel
theorem dX4_init_0 : decode cX4_init 0 = .ok (.aload_n 0, 1) := by decide +kernel
theorem dX4_init_1 : decode cX4_init 1 = .ok (.invokespecial 3, 3) := by decide +kernel
theorem dX4_init_4 : decode cX4_init 4 = .ok (.aload_n 0, 1) := by decide +kernel
theorem dX4_init_5 : decode cX4_init 5 = .ok (.iconst 4, 1) := by decide +kernel
theorem dX4_init_6 : decode cX4_init 6 = .ok (.bipush 12, 2) := by decide +kernel
theorem dX4_init_8 : decode cX4_init 8 = .ok (.multianewarray 9 2, 4) := by decide +kernel
theorem dX4_init_12 : decode cX4_init 12 = .ok (.putfield 11, 3) := by decide +kernel
theorem dX4_init_15 : decode cX4_init 15 = .ok (.aload_n 0, 1) := by decide +kernel
theorem dX4_init_16 : decode cX4_init 16 = .ok (.bipush 12, 2) := by decide +kernel
theorem dX4_init_18 : decode cX4_init 18 = .ok (.newarray .int, 2) := by decide +kernel
theorem dX4_init_20 : decode cX4_init 20 = .ok (.putfield 16, 3) := by decide +kernel
theorem dX4_init_23 : decode cX4_init 23 = .ok (.return_, 1) := by decide +kernel
set_option maxRecDepth 20000 in
theorem ggX4_restart_X4_turnOf : GoodIn wsX4_restart wsX4_turnOf := goodIn_r _ [5] (by decide +kernel) (by decide +kernel)
set_option maxRecDepth 20000 in
theorem gX4_restart_X4_turnOf : GoodIn wsX4_restart (va_wsS RX4 20 yX4_turnOf wsX4_turnOf) := goodIn_app (goodIn_of _ (by decide +kernel)) ggX4_restart_X4_turnOf
theorem dX4_restart_0 : decode cX4_restart 0 = .ok (.iconst 0, 1) := by decide +kernel
theorem dX4_restart_1 : decode cX4_restart 1 = .ok (.istore_n 3, 1) := by decide +kernel
theorem dX4_restart_2 : decode cX4_restart 2 = .ok (.iload_n 3, 1) := by decide +kernel
theorem dX4_restart_3 : decode cX4_restart 3 = .ok (.iconst 4, 1) := by decide +kernel
theorem dX4_restart_4 : decode cX4_restart 4 = .ok (.if_icmp .ge 51, 3) := by decide +kernel
theorem dX4_restart_7 : decode cX4_restart 7 = .ok (.iconst 0, 1) := by decide +kernel
theorem dX4_restart_8 : decode cX4_restart 8 = .ok (.istore 4, 2) := by decide +kernel
theorem dX4_restart_10 : decode cX4_restart 10 = .ok (.iload 4, 2) := by decide +kernel
theorem dX4_restart_12 : decode cX4_restart 12 = .ok (.iload_n 1, 1) := by decide +kernel
theorem dX4_restart_13 : decode cX4_restart 13 = .ok (.if_icmp .ge 36, 3) := by decide +kernel
theorem dX4_restart_16 : decode cX4_restart 16 = .ok (.aload_n 0, 1) := by decide +kernel
theorem dX4_restart_17 : decode cX4_restart 17 = .ok (.getfield 11, 3) := by decide +kernel
theorem dX4_restart_20 : decode cX4_restart 20 = .ok (.iload_n 3, 1) := by decide +kernel
theorem dX4_restart_21 : decode cX4_restart 21 = .ok (.aaload, 1) := by decide +kernel
theorem dX4_restart_22 : decode cX4_restart 22 = .ok (.iload 4, 2) := by decide +kernel
theorem dX4_restart_24 : decode cX4_restart 24 = .ok (.iload 4, 2) := by decide +kernel
theorem dX4_restart_26 : decode cX4_restart 26 = .ok (.iconst 2, 1) := by decide +kernel
theorem dX4_restart_27 : decode cX4_restart 27 = .ok (.irem, 1) := by decide +kernel
theorem dX4_restart_28 : decode cX4_restart 28 = .ok (.ifCond .ne 8, 3) := by decide +kernel
theorem dX4_restart_31 : decode cX4_restart 31 = .ok (.bipush 82, 2) := by decide +kernel
theorem dX4_restart_33 : decode cX4_restart 33 = .ok (.goto 5, 3) := by decide +kernel
theorem dX4_restart_36 : decode cX4_restart 36 = .ok (.bipush 76, 2) := by decide +kernel
theorem dX4_restart_38 : decode cX4_restart 38 = .ok (.iload_n 2, 1) := by decide +kernel
theorem dX4_restart_39 : decode cX4_restart 39 = .ok (.invokestatic 20, 3) := by decide +kernel
theorem dX4_restart_42 : decode cX4_restart 42 = .ok (.iastore, 1) := by decide +kernel
theorem dX4_restart_43 : decode cX4_restart 43 = .ok (.iinc 4 1, 3) := by decide +kernel
theorem dX4_restart_46 : decode cX4_restart 46 = .ok (.goto (-36), 3) := by decide +kernel
theorem dX4_restart_49 : decode cX4_restart 49 = .ok (.iinc 3 1, 3) := by decide +kernel
theorem dX4_restart_52 : decode cX4_restart 52 = .ok (.goto (-50), 3) := by decide +kernel
theorem dX4_restart_55 : decode cX4_restart 55 = .ok (.return_, 1) := by decide +kernel
theorem dX4_hasRoomFor_0 : decode cX4_hasRoomFor 0 = .ok (.aload_n 0, 1) := by decide +kernel
theorem dX4_hasRoomFor_1 : decode cX4_hasRoomFor 1 = .ok (.getfield 24, 3) := by decide +kernel
theorem dX4_hasRoomFor_4 : decode cX4_hasRoomFor 4 = .ok (.iload_n 1, 1) := by decide +kernel
theorem dX4_hasRoomFor_5 : decode cX4_hasRoomFor 5 = .ok (.iadd, 1) := by decide +kernel
theorem dX4_hasRoomFor_6 : decode cX4_hasRoomFor 6 = .ok (.bipush 12, 2) := by decide +kernel
theorem dX4_hasRoomFor_8 : decode cX4_hasRoomFor 8 = .ok (.if_icmp .gt 7, 3) := by decide +kernel
theorem dX4_hasRoomFor_11 : decode cX4_hasRoomFor 11 = .ok (.iconst 1, 1) := by decide +kernel
theorem dX4_hasRoomFor_12 : decode cX4_hasRoomFor 12 = .ok (.goto 4, 3) := by decide +kernel
theorem dX4_hasRoomFor_15 : decode cX4_hasRoomFor 15 = .ok (.iconst 0, 1) := by decide +kernel
theorem dX4_hasRoomFor_16 : decode cX4_hasRoomFor 16 = .ok (.ireturn, 1) := by decide +kernel
theorem dX4_takeBytes_0 : decode cX4_takeBytes 0 = .ok (.iload_n 3, 1) := by decide +kernel
theorem dX4_takeBytes_1 : decode cX4_takeBytes 1 = .ok (.iconst 1, 1) := by decide +kernel
theorem dX4_takeBytes_2 : decode cX4_takeBytes 2 = .ok (.isub, 1) := by decide +kernel
theorem dX4_takeBytes_3 : decode cX4_takeBytes 3 = .ok (.istore 4, 2) := by decide +kernel
theorem dX4_takeBytes_5 : decode cX4_takeBytes 5 = .ok (.iload 4, 2) := by decide +kernel
theorem dX4_takeBytes_7 : decode cX4_takeBytes 7 = .ok (.ifCond .lt 40, 3) := by decide +kernel
theorem dX4_takeBytes_10 : decode cX4_takeBytes 10 = .ok (.aload_n 0, 1) := by decide +kernel
theorem dX4_takeBytes_11 : decode cX4_takeBytes 11 = .ok (.getfield 16, 3) := by decide +kernel
theorem dX4_takeBytes_14 : decode cX4_takeBytes 14 = .ok (.aload_n 0, 1) := by decide +kernel
theorem dX4_takeBytes_15 : decode cX4_takeBytes 15 = .ok (.getfield 24, 3) := by decide +kernel
theorem dX4_takeBytes_18 : decode cX4_takeBytes 18 = .ok (.lload_n 1, 1) := by decide +kernel
theorem dX4_takeBytes_19 : decode cX4_takeBytes 19 = .ok (.bipush 8, 2) := by decide +kernel
theorem dX4_takeBytes_21 : decode cX4_takeBytes 21 = .ok (.iload 4, 2) := by decide +kernel
theorem dX4_takeBytes_23 : decode cX4_takeBytes 23 = .ok (.imul, 1) := by decide +kernel
theorem dX4_takeBytes_24 : decode cX4_takeBytes 24 = .ok (.lushr, 1) := by decide +kernel
theorem dX4_takeBytes_25 : decode cX4_takeBytes 25 = .ok (.l2i, 1) := by decide +kernel
theorem dX4_takeBytes_26 : decode cX4_takeBytes 26 = .ok (.sipush 255, 3) := by decide +kernel
theorem dX4_takeBytes_29 : decode cX4_takeBytes 29 = .ok (.iand, 1) := by decide +kernel
theorem dX4_takeBytes_30 : decode cX4_takeBytes 30 = .ok (.iastore, 1) := by decide +kernel
theorem dX4_takeBytes_31 : decode cX4_takeBytes 31 = .ok (.aload_n 0, 1) := by decide +kernel
theorem dX4_takeBytes_32 : decode cX4_takeBytes 32 = .ok (.dup, 1) := by decide +kernel
theorem dX4_takeBytes_33 : decode cX4_takeBytes 33 = .ok (.getfield 24, 3) := by decide +kernel
theorem dX4_takeBytes_36 : decode cX4_takeBytes 36 = .ok (.iconst 1, 1) := by decide +kernel
theorem dX4_takeBytes_37 : decode cX4_takeBytes 37 = .ok (.iadd, 1) := by decide +kernel
theorem dX4_takeBytes_38 : decode cX4_takeBytes 38 = .ok (.putfield 24, 3) := by decide +kernel
theorem dX4_takeBytes_41 : decode cX4_takeBytes 41 = .ok (.iinc 4 (-1), 3) := by decide +kernel
theorem dX4_takeBytes_44 : decode cX4_takeBytes 44 = .ok (.goto (-39), 3) := by decide +kernel
theorem dX4_takeBytes_47 : decode cX4_takeBytes 47 = .ok (.aload_n 0, 1) := by decide +kernel
theorem dX4_takeBytes_48 : decode cX4_takeBytes 48 = .ok (.getfield 24, 3) := by decide +kernel
theorem dX4_takeBytes_51 : decode cX4_takeBytes 51 = .ok (.ireturn, 1) := by decide +kernel
set_option maxRecDepth 20000 in
theorem ggX4_setFromTape_X4_turnOf : GoodIn wsX4_setFromTape wsX4_turnOf := goodIn_r _ [7] (by decide +kernel) (by decide +kernel)
set_option maxRecDepth 20000 in
theorem gX4_setFromTape_X4_turnOf : GoodIn wsX4_setFromTape (va_wsS RX4 20 yX4_turnOf wsX4_turnOf) := goodIn_app (goodIn_of _ (by decide +kernel)) ggX4_setFromTape_X4_turnOf
theorem dX4_setFromTape_0 : decode cX4_setFromTape 0 = .ok (.aload_n 0, 1) := by decide +kernel
theorem dX4_setFromTape_1 : decode cX4_setFromTape 1 = .ok (.getfield 24, 3) := by decide +kernel
theorem dX4_setFromTape_4 : decode cX4_setFromTape 4 = .ok (.iload_n 2, 1) := by decide +kernel
theorem dX4_setFromTape_5 : decode cX4_setFromTape 5 = .ok (.if_icmp .ne 7, 3) := by decide +kernel
theorem dX4_setFromTape_8 : decode cX4_setFromTape 8 = .ok (.iconst 1, 1) := by decide +kernel
theorem dX4_setFromTape_9 : decode cX4_setFromTape 9 = .ok (.goto 4, 3) := by decide +kernel
theorem dX4_setFromTape_12 : decode cX4_setFromTape 12 = .ok (.iconst 0, 1) := by decide +kernel
theorem dX4_setFromTape_13 : decode cX4_setFromTape 13 = .ok (.istore 4, 2) := by decide +kernel
theorem dX4_setFromTape_15 : decode cX4_setFromTape 15 = .ok (.iconst 0, 1) := by decide +kernel
theorem dX4_setFromTape_16 : decode cX4_setFromTape 16 = .ok (.istore 5, 2) := by decide +kernel
theorem dX4_setFromTape_18 : decode cX4_setFromTape 18 = .ok (.iload 5, 2) := by decide +kernel
theorem dX4_setFromTape_20 : decode cX4_setFromTape 20 = .ok (.aload_n 0, 1) := by decide +kernel
theorem dX4_setFromTape_21 : decode cX4_setFromTape 21 = .ok (.getfield 24, 3) := by decide +kernel
theorem dX4_setFromTape_24 : decode cX4_setFromTape 24 = .ok (.if_icmp .ge 36, 3) := by decide +kernel
theorem dX4_setFromTape_27 : decode cX4_setFromTape 27 = .ok (.iload 4, 2) := by decide +kernel
theorem dX4_setFromTape_29 : decode cX4_setFromTape 29 = .ok (.ifCond .eq 22, 3) := by decide +kernel
theorem dX4_setFromTape_32 : decode cX4_setFromTape 32 = .ok (.aload_n 0, 1) := by decide +kernel
theorem dX4_setFromTape_33 : decode cX4_setFromTape 33 = .ok (.getfield 16, 3) := by decide +kernel
theorem dX4_setFromTape_36 : decode cX4_setFromTape 36 = .ok (.iload 5, 2) := by decide +kernel
theorem dX4_setFromTape_38 : decode cX4_setFromTape 38 = .ok (.iaload, 1) := by decide +kernel
theorem dX4_setFromTape_39 : decode cX4_setFromTape 39 = .ok (.iload_n 3, 1) := by decide +kernel
theorem dX4_setFromTape_40 : decode cX4_setFromTape 40 = .ok (.invokestatic 20, 3) := by decide +kernel
theorem dX4_setFromTape_43 : decode cX4_setFromTape 43 = .ok (.iconst (-1), 1) := by decide +kernel
theorem dX4_setFromTape_44 : decode cX4_setFromTape 44 = .ok (.if_icmp .eq 7, 3) := by decide +kernel
theorem dX4_setFromTape_47 : decode cX4_setFromTape 47 = .ok (.iconst 1, 1) := by decide +kernel
theorem dX4_setFromTape_48 : decode cX4_setFromTape 48 = .ok (.goto 4, 3) := by decide +kernel
theorem dX4_setFromTape_51 : decode cX4_setFromTape 51 = .ok (.iconst 0, 1) := by decide +kernel
theorem dX4_setFromTape_52 : decode cX4_setFromTape 52 = .ok (.istore 4, 2) := by decide +kernel
theorem dX4_setFromTape_54 : decode cX4_setFromTape 54 = .ok (.iinc 5 1, 3) := by decide +kernel
theorem dX4_setFromTape_57 : decode cX4_setFromTape 57 = .ok (.goto (-39), 3) := by decide +kernel
theorem dX4_setFromTape_60 : decode cX4_setFromTape 60 = .ok (.iconst 0, 1) := by decide +kernel
theorem dX4_setFromTape_61 : decode cX4_setFromTape 61 = .ok (.istore 5, 2) := by decide +kernel
theorem dX4_setFromTape_63 : decode cX4_setFromTape 63 = .ok (.iload 5, 2) := by decide +kernel
theorem dX4_setFromTape_65 : decode cX4_setFromTape 65 = .ok (.aload_n 0, 1) := by decide +kernel
theorem dX4_setFromTape_66 : decode cX4_setFromTape 66 = .ok (.getfield 24, 3) := by decide +kernel
theorem dX4_setFromTape_69 : decode cX4_setFromTape 69 = .ok (.if_icmp .ge 34, 3) := by decide +kernel
theorem dX4_setFromTape_72 : decode cX4_setFromTape 72 = .ok (.iload 4, 2) := by decide +kernel
theorem dX4_setFromTape_74 : decode cX4_setFromTape 74 = .ok (.ifCond .eq 29, 3) := by decide +kernel
theorem dX4_setFromTape_77 : decode cX4_setFromTape 77 = .ok (.aload_n 0, 1) := by decide +kernel
theorem dX4_setFromTape_78 : decode cX4_setFromTape 78 = .ok (.getfield 11, 3) := by decide +kernel
theorem dX4_setFromTape_81 : decode cX4_setFromTape 81 = .ok (.iload_n 1, 1) := by decide +kernel
theorem dX4_setFromTape_82 : decode cX4_setFromTape 82 = .ok (.aaload, 1) := by decide +kernel
theorem dX4_setFromTape_83 : decode cX4_setFromTape 83 = .ok (.iload 5, 2) := by decide +kernel
theorem dX4_setFromTape_85 : decode cX4_setFromTape 85 = .ok (.aload_n 0, 1) := by decide +kernel
theorem dX4_setFromTape_86 : decode cX4_setFromTape 86 = .ok (.getfield 16, 3) := by decide +kernel
theorem dX4_setFromTape_89 : decode cX4_setFromTape 89 = .ok (.iload 5, 2) := by decide +kernel
theorem dX4_setFromTape_91 : decode cX4_setFromTape 91 = .ok (.iaload, 1) := by decide +kernel
theorem dX4_setFromTape_92 : decode cX4_setFromTape 92 = .ok (.iload_n 3, 1) := by decide +kernel
theorem dX4_setFromTape_93 : decode cX4_setFromTape 93 = .ok (.invokestatic 20, 3) := by decide +kernel
theorem dX4_setFromTape_96 : decode cX4_setFromTape 96 = .ok (.iastore, 1) := by decide +kernel
theorem dX4_setFromTape_97 : decode cX4_setFromTape 97 = .ok (.iinc 5 1, 3) := by decide +kernel
theorem dX4_setFromTape_100 : decode cX4_setFromTape 100 = .ok (.goto (-37), 3) := by decide +kernel
theorem dX4_setFromTape_103 : decode cX4_setFromTape 103 = .ok (.aload_n 0, 1) := by decide +kernel
theorem dX4_setFromTape_104 : decode cX4_setFromTape 104 = .ok (.iconst 0, 1) := by decide +kernel
theorem dX4_setFromTape_105 : decode cX4_setFromTape 105 = .ok (.putfield 24, 3) := by decide +kernel
theorem dX4_setFromTape_108 : decode cX4_setFromTape 108 = .ok (.iload 4, 2) := by decide +kernel
theorem dX4_setFromTape_110 : decode cX4_setFromTape 110 = .ok (.ireturn, 1) := by decide +kernel
theorem dX4_turnOf_0 : decode cX4_turnOf 0 = .ok (.iload_n 1, 1) := by decide +kernel
theorem dX4_turnOf_1 : decode cX4_turnOf 1 = .ok (.getstatic 28, 3) := by decide +kernel
theorem dX4_turnOf_4 : decode cX4_turnOf 4 = .ok (.arraylength, 1) := by decide +kernel
theorem dX4_turnOf_5 : decode cX4_turnOf 5 = .ok (.if_icmp .ne 7, 3) := by decide +kernel
theorem dX4_turnOf_8 : decode cX4_turnOf 8 = .ok (.iconst 1, 1) := by decide +kernel
theorem dX4_turnOf_9 : decode cX4_turnOf 9 = .ok (.goto 4, 3) := by decide +kernel
theorem dX4_turnOf_12 : decode cX4_turnOf 12 = .ok (.iconst 0, 1) := by decide +kernel
theorem dX4_turnOf_13 : decode cX4_turnOf 13 = .ok (.istore_n 2, 1) := by decide +kernel
theorem dX4_turnOf_14 : decode cX4_turnOf 14 = .ok (.iload_n 0, 1) := by decide +kernel
theorem dX4_turnOf_15 : decode cX4_turnOf 15 = .ok (.tableswitch 87 76 85 #[61, 75, 53, 87, 87, 87, 55, 65, 87, 57], 53) := by decide +kernel
theorem dX4_turnOf_68 : decode cX4_turnOf 68 = .ok (.iconst 0, 1) := by decide +kernel
theorem dX4_turnOf_69 : decode cX4_turnOf 69 = .ok (.ireturn, 1) := by decide +kernel
theorem dX4_turnOf_70 : decode cX4_turnOf 70 = .ok (.iconst 1, 1) := by decide +kernel
theorem dX4_turnOf_71 : decode cX4_turnOf 71 = .ok (.ireturn, 1) := by decide +kernel
theorem dX4_turnOf_72 : decode cX4_turnOf 72 = .ok (.iload_n 1, 1) := by decide +kernel
theorem dX4_turnOf_73 : decode cX4_turnOf 73 = .ok (.iconst 2, 1) := by decide +kernel
theorem dX4_turnOf_74 : decode cX4_turnOf 74 = .ok (.idiv, 1) := by decide +kernel
theorem dX4_turnOf_75 : decode cX4_turnOf 75 = .ok (.ireturn, 1) := by decide +kernel
theorem dX4_turnOf_76 : decode cX4_turnOf 76 = .ok (.iload_n 1, 1) := by decide +kernel
theorem dX4_turnOf_77 : decode cX4_turnOf 77 = .ok (.iconst 1, 1) := by decide +kernel
theorem dX4_turnOf_78 : decode cX4_turnOf 78 = .ok (.isub, 1) := by decide +kernel
theorem dX4_turnOf_79 : decode cX4_turnOf 79 = .ok (.ireturn, 1) := by decide +kernel
theorem dX4_turnOf_80 : decode cX4_turnOf 80 = .ok (.iload_n 2, 1) := by decide +kernel
theorem dX4_turnOf_81 : decode cX4_turnOf 81 = .ok (.ifCond .eq 7, 3) := by decide +kernel
theorem dX4_turnOf_84 : decode cX4_turnOf 84 = .ok (.iconst 2, 1) := by decide +kernel
theorem dX4_turnOf_85 : decode cX4_turnOf 85 = .ok (.goto 4, 3) := by decide +kernel
theorem dX4_turnOf_88 : decode cX4_turnOf 88 = .ok (.iconst (-1), 1) := by decide +kernel
theorem dX4_turnOf_89 : decode cX4_turnOf 89 = .ok (.ireturn, 1) := by decide +kernel
theorem dX4_turnOf_90 : decode cX4_turnOf 90 = .ok (.iload_n 2, 1) := by decide +kernel
theorem dX4_turnOf_91 : decode cX4_turnOf 91 = .ok (.ifCond .eq 9, 3) := by decide +kernel
theorem dX4_turnOf_94 : decode cX4_turnOf 94 = .ok (.iload_n 1, 1) := by decide +kernel
theorem dX4_turnOf_95 : decode cX4_turnOf 95 = .ok (.iconst 2, 1) := by decide +kernel
theorem dX4_turnOf_96 : decode cX4_turnOf 96 = .ok (.isub, 1) := by decide +kernel
theorem dX4_turnOf_97 : decode cX4_turnOf 97 = .ok (.goto 4, 3) := by decide +kernel
theorem dX4_turnOf_100 : decode cX4_turnOf 100 = .ok (.iconst (-1), 1) := by decide +kernel
theorem dX4_turnOf_101 : decode cX4_turnOf 101 = .ok (.ireturn, 1) := by decide +kernel
theorem dX4_turnOf_102 : decode cX4_turnOf 102 = .ok (.iconst (-1), 1) := by decide +kernel
theorem dX4_turnOf_103 : decode cX4_turnOf 103 = .ok (.ireturn, 1) := by decide +kernel
theorem dX5_init_0 : decode cX5_init 0 = .ok (.aload_n 0, 1) := by decide +kernel
theorem dX5_init_1 : decode cX5_init 1 = .ok (.invokespecial 3, 3) := by decide +kernel
theorem dX5_init_4 : decode cX5_init 4 = .ok (.aload_n 0, 1) := by decide +kernel
theorem dX5_init_5 : decode cX5_init 5 = .ok (.iconst (-1), 1) := by decide +kernel
theorem dX5_init_6 : decode cX5_init 6 = .ok (.putfield 9, 3) := by decide +kernel
theorem dX5_init_9 : decode cX5_init 9 = .ok (.aload_n 0, 1) := by decide +kernel
theorem dX5_init_10 : decode cX5_init 10 = .ok (.bipush 60, 2) := by decide +kernel
theorem dX5_init_12 : decode cX5_init 12 = .ok (.newarray .int, 2) := by decide +kernel
theorem dX5_init_14 : decode cX5_init 14 = .ok (.putfield 15, 3) := by decide +kernel
theorem dX5_init_17 : decode cX5_init 17 = .ok (.return_, 1) := by decide +kernel
set_option maxRecDepth 20000 in
theorem ggX6_init_X1_init : GoodIn wsX6_init wsX1_init := goodIn_r _ [31, 32, 2, 3, 33, 34, 35, 16, 36, 37, 78, 79, 80, 81] (by decide +kernel) (by decide +kernel)
set_option maxRecDepth 20000 in
theorem gX6_init_X1_init_n11 : GoodIn wsX6_init (wsX1_init) := ggX6_init_X1_init
set_option maxRecDepth 20000 in
theorem ggX6_init_X4_init : GoodIn wsX6_init wsX4_init := goodIn_r _ [39, 40, 2, 3, 41, 16, 42, 43, 91, 92, 93] (by decide +kernel) (by decide +kernel)
set_option maxRecDepth 20000 in
theorem gX6_init_X4_init_n18 : GoodIn wsX6_init (wsX4_init) := ggX6_init_X4_init
set_option maxRecDepth 20000 in
theorem ggX6_init_X0_init : GoodIn wsX6_init wsX0_init := goodIn_r _ [45, 46, 2, 3] (by decide +kernel) (by decide +kernel)
set_option maxRecDepth 20000 in
theorem gX6_init_X0_init_n29 : GoodIn wsX6_init (wsX0_init) := ggX6_init_X0_init
set_option maxRecDepth 20000 in
theorem ggX6_init_X3_init : GoodIn wsX6_init wsX3_init := goodIn_r _ [48, 49, 2, 3, 16, 50, 51, 52, 53, 98, 99, 100, 101, 102] (by decide +kernel) (by decide +kernel)
set_option maxRecDepth 20000 in
theorem gX6_init_X3_init_n36 : GoodIn wsX6_init (wsX3_init) := ggX6_init_X3_init
set_option maxRecDepth 20000 in
theorem ggX6_init_X2_init : GoodIn wsX6_init wsX2_init := goodIn_r _ [55, 56, 2, 3, 57, 14, 15, 58, 59, 16, 60, 61, 44, 45, 46, 94, 95, 96, 97, 103, 104, 105, 106, 107, 108, 109] (by decide +kernel) (by decide +kernel)
set_option maxRecDepth 20000 in
theorem gX6_init_X2_init_n43 : GoodIn wsX6_init (wsX2_init) := ggX6_init_X2_init
set_option maxRecDepth 20000 in
theorem ggX6_init_X5_init : GoodIn wsX6_init wsX5_init := goodIn_r _ [63, 64, 2, 3, 65, 16, 66, 110, 111, 112] (by decide +kernel) (by decide +kernel)
set_option maxRecDepth 20000 in
theorem gX6_init_X5_init_n54 : GoodIn wsX6_init (wsX5_init) := ggX6_init_X5_init
set_option maxRecDepth 20000 in
theorem ggX6_init_X1_directions : GoodIn wsX6_init wsX1_directions := goodIn_r _ [70, 33, 78, 79, 80, 81] (by decide +kernel) (by decide +kernel)
set_option maxRecDepth 20000 in
theorem gX6_init_X1_directions : GoodIn wsX6_init (wsV RX6 55 RX1 yX1_directions wsX1_directions) := goodIn_app (goodIn_of _ (by decide +kernel)) ggX6_init_X1_directions
set_option maxRecDepth 20000 in
theorem ggX6_init_X4_restart : GoodIn wsX6_init wsX4_restart := goodIn_r _ [74, 42, 75, 76, 10, 77, 91, 92, 93] (by decide +kernel) (by decide +kernel)
set_option maxRecDepth 20000 in
theorem gX6_init_X4_restart : GoodIn wsX6_init (wsV RX6 59 RX4 yX4_restart wsX4_restart) := goodIn_app (goodIn_of _ (by decide +kernel)) ggX6_init_X4_restart
theorem dX6_init_0 : decode cX6_init 0 = .ok (.aload_n 0, 1) := by decide +kernel
theorem dX6_init_1 : decode cX6_init 1 = .ok (.invokespecial 3, 3) := by decide +kernel
theorem dX6_init_4 : decode cX6_init 4 = .ok (.aload_n 0, 1) := by decide +kernel
theorem dX6_init_5 : decode cX6_init 5 = .ok (.new 9, 3) := by decide +kernel
theorem dX6_init_8 : decode cX6_init 8 = .ok (.dup, 1) := by decide +kernel
theorem dX6_init_9 : decode cX6_init 9 = .ok (.invokespecial 11, 3) := by decide +kernel
theorem dX6_init_12 : decode cX6_init 12 = .ok (.putfield 12, 3) := by decide +kernel
theorem dX6_init_15 : decode cX6_init 15 = .ok (.aload_n 0, 1) := by decide +kernel
theorem dX6_init_16 : decode cX6_init 16 = .ok (.new 16, 3) := by decide +kernel
theorem dX6_init_19 : decode cX6_init 19 = .ok (.dup, 1) := by decide +kernel
theorem dX6_init_20 : decode cX6_init 20 = .ok (.invokespecial 18, 3) := by decide +kernel
theorem dX6_init_23 : decode cX6_init 23 = .ok (.putfield 19, 3) := by decide +kernel
theorem dX6_init_26 : decode cX6_init 26 = .ok (.aload_n 0, 1) := by decide +kernel
theorem dX6_init_27 : decode cX6_init 27 = .ok (.bipush 6, 2) := by decide +kernel
theorem dX6_init_29 : decode cX6_init 29 = .ok (.anewarray 23, 3) := by decide +kernel
theorem dX6_init_32 : decode cX6_init 32 = .ok (.putfield 25, 3) := by decide +kernel
theorem dX6_init_35 : decode cX6_init 35 = .ok (.iconst 0, 1) := by decide +kernel
theorem dX6_init_36 : decode cX6_init 36 = .ok (.istore_n 1, 1) := by decide +kernel
theorem dX6_init_37 : decode cX6_init 37 = .ok (.iload_n 1, 1) := by decide +kernel
theorem dX6_init_38 : decode cX6_init 38 = .ok (.bipush 6, 2) := by decide +kernel
theorem dX6_init_40 : decode cX6_init 40 = .ok (.if_icmp .ge 22, 3) := by decide +kernel
theorem dX6_init_43 : decode cX6_init 43 = .ok (.aload_n 0, 1) := by decide +kernel
theorem dX6_init_44 : decode cX6_init 44 = .ok (.getfield 25, 3) := by decide +kernel
theorem dX6_init_47 : decode cX6_init 47 = .ok (.iload_n 1, 1) := by decide +kernel
theorem dX6_init_48 : decode cX6_init 48 = .ok (.new 23, 3) := by decide +kernel
theorem dX6_init_51 : decode cX6_init 51 = .ok (.dup, 1) := by decide +kernel
theorem dX6_init_52 : decode cX6_init 52 = .ok (.invokespecial 29, 3) := by decide +kernel
theorem dX6_init_55 : decode cX6_init 55 = .ok (.aastore, 1) := by decide +kernel
theorem dX6_init_56 : decode cX6_init 56 = .ok (.iinc 1 1, 3) := by decide +kernel
theorem dX6_init_59 : decode cX6_init 59 = .ok (.goto (-22), 3) := by decide +kernel
theorem dX6_init_62 : decode cX6_init 62 = .ok (.aload_n 0, 1) := by decide +kernel
theorem dX6_init_63 : decode cX6_init 63 = .ok (.bipush 6, 2) := by decide +kernel
theorem dX6_init_65 : decode cX6_init 65 = .ok (.newarray .int, 2) := by decide +kernel
theorem dX6_init_67 : decode cX6_init 67 = .ok (.putfield 30, 3) := by decide +kernel
theorem dX6_init_70 : decode cX6_init 70 = .ok (.aload_n 0, 1) := by decide +kernel
theorem dX6_init_71 : decode cX6_init 71 = .ok (.new 34, 3) := by decide +kernel
theorem dX6_init_74 : decode cX6_init 74 = .ok (.dup, 1) := by decide +kernel
theorem dX6_init_75 : decode cX6_init 75 = .ok (.invokespecial 36, 3) := by decide +kernel
theorem dX6_init_78 : decode cX6_init 78 = .ok (.putfield 37, 3) := by decide +kernel
theorem dX6_init_81 : decode cX6_init 81 = .ok (.aload_n 0, 1) := by decide +kernel
theorem dX6_init_82 : decode cX6_init 82 = .ok (.new 41, 3) := by decide +kernel
theorem dX6_init_85 : decode cX6_init 85 = .ok (.dup, 1) := by decide +kernel
theorem dX6_init_86 : decode cX6_init 86 = .ok (.invokespecial 43, 3) := by decide +kernel
theorem dX6_init_89 : decode cX6_init 89 = .ok (.putfield 44, 3) := by decide +kernel
theorem dX6_init_92 : decode cX6_init 92 = .ok (.aload_n 0, 1) := by decide +kernel
theorem dX6_init_93 : decode cX6_init 93 = .ok (.iconst 4, 1) := by decide +kernel
theorem dX6_init_94 : decode cX6_init 94 = .ok (.anewarray 48, 3) := by decide +kernel
theorem dX6_init_97 : decode cX6_init 97 = .ok (.putfield 50, 3) := by decide +kernel
theorem dX6_init_100 : decode cX6_init 100 = .ok (.iconst 0, 1) := by decide +kernel
theorem dX6_init_101 : decode cX6_init 101 = .ok (.istore_n 1, 1) := by decide +kernel
theorem dX6_init_102 : decode cX6_init 102 = .ok (.iload_n 1, 1) := by decide +kernel
theorem dX6_init_103 : decode cX6_init 103 = .ok (.iconst 4, 1) := by decide +kernel
theorem dX6_init_104 : decode cX6_init 104 = .ok (.if_icmp .ge 22, 3) := by decide +kernel
theorem dX6_init_107 : decode cX6_init 107 = .ok (.aload_n 0, 1) := by decide +kernel
theorem dX6_init_108 : decode cX6_init 108 = .ok (.getfield 50, 3) := by decide +kernel
theorem dX6_init_111 : decode cX6_init 111 = .ok (.iload_n 1, 1) := by decide +kernel
theorem dX6_init_112 : decode cX6_init 112 = .ok (.new 48, 3) := by decide +kernel
theorem dX6_init_115 : decode cX6_init 115 = .ok (.dup, 1) := by decide +kernel
theorem dX6_init_116 : decode cX6_init 116 = .ok (.invokespecial 54, 3) := by decide +kernel
theorem dX6_init_119 : decode cX6_init 119 = .ok (.aastore, 1) := by decide +kernel
theorem dX6_init_120 : decode cX6_init 120 = .ok (.iinc 1 1, 3) := by decide +kernel
theorem dX6_init_123 : decode cX6_init 123 = .ok (.goto (-21), 3) := by decide +kernel
theorem dX6_init_126 : decode cX6_init 126 = .ok (.aload_n 0, 1) := by decide +kernel
theorem dX6_init_127 : decode cX6_init 127 = .ok (.getfield 19, 3) := by decide +kernel
theorem dX6_init_130 : decode cX6_init 130 = .ok (.iconst 2, 1) := by decide +kernel
theorem dX6_init_131 : decode cX6_init 131 = .ok (.aload_n 0, 1) := by decide +kernel
theorem dX6_init_132 : decode cX6_init 132 = .ok (.getfield 12, 3) := by decide +kernel
theorem dX6_init_135 : decode cX6_init 135 = .ok (.invokevirtual 55, 3) := by decide +kernel
theorem dX6_init_138 : decode cX6_init 138 = .ok (.invokevirtual 59, 3) := by decide +kernel
theorem dX6_init_141 : decode cX6_init 141 = .ok (.return_, 1) := by decide +kernel
set_option maxRecDepth 20000 in
theorem ggX6_floor_X6_isWithin : GoodIn wsX6_floor wsX6_isWithin := goodIn_r _ [10] (by decide +kernel) (by decide +kernel)
set_option maxRecDepth 20000 in
theorem gX6_floor_X6_isWithin : GoodIn wsX6_floor (va_wsS RX6 63 yX6_isWithin wsX6_isWithin) := goodIn_app (goodIn_of _ (by decide +kernel)) ggX6_floor_X6_isWithin
set_option maxRecDepth 20000 in
theorem ggX6_floor_X1_restart : GoodIn wsX6_floor wsX1_restart := goodIn_r _ [15, 16, 17, 18, 19, 20, 21, 22, 23, 58, 59, 60, 61] (by decide +kernel) (by decide +kernel)
set_option maxRecDepth 20000 in
theorem gX6_floor_X1_restart : GoodIn wsX6_floor (wsV RX6 71 RX1 yX1_restart wsX1_restart) := goodIn_app (goodIn_of _ (by decide +kernel)) ggX6_floor_X1_restart
set_option maxRecDepth 20000 in
theorem ggX6_floor_X1_directions : GoodIn wsX6_floor wsX1_directions := goodIn_r _ [27, 16, 58, 59, 60, 61] (by decide +kernel) (by decide +kernel)
set_option maxRecDepth 20000 in
theorem gX6_floor_X1_directions : GoodIn wsX6_floor (wsV RX6 55 RX1 yX1_directions wsX1_directions) := goodIn_app (goodIn_of _ (by decide +kernel)) ggX6_floor_X1_directions
set_option maxRecDepth 20000 in
theorem ggX6_floor_X4_restart : GoodIn wsX6_floor wsX4_restart := goodIn_r _ [32, 33, 34, 35, 31, 36, 62, 63, 64] (by decide +kernel) (by decide +kernel)
set_option maxRecDepth 20000 in
theorem gX6_floor_X4_restart : GoodIn wsX6_floor (wsV RX6 59 RX4 yX4_restart wsX4_restart) := goodIn_app (goodIn_of _ (by decide +kernel)) ggX6_floor_X4_restart
set_option maxRecDepth 20000 in
theorem ggX6_floor_X3_forget : GoodIn wsX6_floor wsX3_forget := goodIn_r _ [41, 42, 65, 66, 67, 68, 69] (by decide +kernel) (by decide +kernel)
set_option maxRecDepth 20000 in
theorem gX6_floor_X3_forget : GoodIn wsX6_floor (wsV RX6 72 RX3 yX3_forget wsX3_forget) := goodIn_app (goodIn_of _ (by decide +kernel)) ggX6_floor_X3_forget
set_option maxRecDepth 20000 in
theorem ggX6_floor_X2_forget : GoodIn wsX6_floor wsX2_forget := goodIn_r _ [47, 48, 70, 71, 72, 73, 74, 75, 76] (by decide +kernel) (by decide +kernel)
set_option maxRecDepth 20000 in
theorem gX6_floor_X2_forget : GoodIn wsX6_floor (wsV RX6 75 RX2 yX2_forget wsX2_forget) := goodIn_app (goodIn_of _ (by decide +kernel)) ggX6_floor_X2_forget
theorem dX6_floor_0 : decode cX6_floor 0 = .ok (.iload_n 1, 1) := by decide +kernel
theorem dX6_floor_1 : decode cX6_floor 1 = .ok (.iconst 0, 1) := by decide +kernel
theorem dX6_floor_2 : decode cX6_floor 2 = .ok (.iconst 1, 1) := by decide +kernel
theorem dX6_floor_3 : decode cX6_floor 3 = .ok (.invokestatic 63, 3) := by decide +kernel
theorem dX6_floor_6 : decode cX6_floor 6 = .ok (.ifCond .eq 13, 3) := by decide +kernel
theorem dX6_floor_9 : decode cX6_floor 9 = .ok (.iload_n 2, 1) := by decide +kernel
theorem dX6_floor_10 : decode cX6_floor 10 = .ok (.iconst 2, 1) := by decide +kernel
theorem dX6_floor_11 : decode cX6_floor 11 = .ok (.bipush 12, 2) := by decide +kernel
theorem dX6_floor_13 : decode cX6_floor 13 = .ok (.invokestatic 63, 3) := by decide +kernel
theorem dX6_floor_16 : decode cX6_floor 16 = .ok (.ifCond .ne 5, 3) := by decide +kernel
theorem dX6_floor_19 : decode cX6_floor 19 = .ok (.iconst (-1), 1) := by decide +kernel
theorem dX6_floor_20 : decode cX6_floor 20 = .ok (.ireturn, 1) := by decide +kernel
theorem dX6_floor_21 : decode cX6_floor 21 = .ok (.aload_n 0, 1) := by decide +kernel
theorem dX6_floor_22 : decode cX6_floor 22 = .ok (.getfield 67, 3) := by decide +kernel
theorem dX6_floor_25 : decode cX6_floor 25 = .ok (.istore_n 3, 1) := by decide +kernel
theorem dX6_floor_26 : decode cX6_floor 26 = .ok (.aload_n 0, 1) := by decide +kernel
theorem dX6_floor_27 : decode cX6_floor 27 = .ok (.getfield 12, 3) := by decide +kernel
theorem dX6_floor_30 : decode cX6_floor 30 = .ok (.iload_n 1, 1) := by decide +kernel
theorem dX6_floor_31 : decode cX6_floor 31 = .ok (.iload_n 2, 1) := by decide +kernel
theorem dX6_floor_32 : decode cX6_floor 32 = .ok (.invokevirtual 71, 3) := by decide +kernel
theorem dX6_floor_35 : decode cX6_floor 35 = .ok (.aload_n 0, 1) := by decide +kernel
theorem dX6_floor_36 : decode cX6_floor 36 = .ok (.getfield 19, 3) := by decide +kernel
theorem dX6_floor_39 : decode cX6_floor 39 = .ok (.iload_n 2, 1) := by decide +kernel
theorem dX6_floor_40 : decode cX6_floor 40 = .ok (.aload_n 0, 1) := by decide +kernel
theorem dX6_floor_41 : decode cX6_floor 41 = .ok (.getfield 12, 3) := by decide +kernel
theorem dX6_floor_44 : decode cX6_floor 44 = .ok (.invokevirtual 55, 3) := by decide +kernel
theorem dX6_floor_47 : decode cX6_floor 47 = .ok (.invokevirtual 59, 3) := by decide +kernel
theorem dX6_floor_50 : decode cX6_floor 50 = .ok (.aload_n 0, 1) := by decide +kernel
theorem dX6_floor_51 : decode cX6_floor 51 = .ok (.getfield 37, 3) := by decide +kernel
theorem dX6_floor_54 : decode cX6_floor 54 = .ok (.invokevirtual 72, 3) := by decide +kernel
theorem dX6_floor_57 : decode cX6_floor 57 = .ok (.aload_n 0, 1) := by decide +kernel
theorem dX6_floor_58 : decode cX6_floor 58 = .ok (.getfield 44, 3) := by decide +kernel
theorem dX6_floor_61 : decode cX6_floor 61 = .ok (.invokevirtual 75, 3) := by decide +kernel
theorem dX6_floor_64 : decode cX6_floor 64 = .ok (.aload_n 0, 1) := by decide +kernel
theorem dX6_floor_65 : decode cX6_floor 65 = .ok (.iconst 0, 1) := by decide +kernel
theorem dX6_floor_66 : decode cX6_floor 66 = .ok (.putfield 67, 3) := by decide +kernel
theorem dX6_floor_69 : decode cX6_floor 69 = .ok (.aload_n 0, 1) := by decide +kernel
theorem dX6_floor_70 : decode cX6_floor 70 = .ok (.iconst 0, 1) := by decide +kernel
theorem dX6_floor_71 : decode cX6_floor 71 = .ok (.putfield 76, 3) := by decide +kernel
theorem dX6_floor_74 : decode cX6_floor 74 = .ok (.iload_n 3, 1) := by decide +kernel
theorem dX6_floor_75 : decode cX6_floor 75 = .ok (.ireturn, 1) := by decide +kernel
set_option maxRecDepth 20000 in
theorem ggX6_type_X6_isWithin : GoodIn wsX6_type wsX6_isWithin := goodIn_r _ [5] (by decide +kernel) (by decide +kernel)
set_option maxRecDepth 20000 in
theorem gX6_type_X6_isWithin : GoodIn wsX6_type (va_wsS RX6 63 yX6_isWithin wsX6_isWithin) := goodIn_app (goodIn_of _ (by decide +kernel)) ggX6_type_X6_isWithin
set_option maxRecDepth 20000 in
theorem ggX6_type_X4_hasRoomFor : GoodIn wsX6_type wsX4_hasRoomFor := goodIn_r _ [10, 11, 26, 27, 28] (by decide +kernel) (by decide +kernel)
set_option maxRecDepth 20000 in
theorem gX6_type_X4_hasRoomFor : GoodIn wsX6_type (wsV RX6 79 RX4 yX4_hasRoomFor wsX4_hasRoomFor) := goodIn_app (goodIn_of _ (by decide +kernel)) ggX6_type_X4_hasRoomFor
set_option maxRecDepth 20000 in
theorem ggX6_type_X4_takeBytes : GoodIn wsX6_type wsX4_takeBytes := goodIn_r _ [15, 16, 11, 26, 27, 28] (by decide +kernel) (by decide +kernel)
set_option maxRecDepth 20000 in
theorem gX6_type_X4_takeBytes : GoodIn wsX6_type (wsV RX6 83 RX4 yX4_takeBytes wsX4_takeBytes) := goodIn_app (goodIn_of _ (by decide +kernel)) ggX6_type_X4_takeBytes
theorem dX6_type_0 : decode cX6_type 0 = .ok (.iload_n 3, 1) := by decide +kernel
theorem dX6_type_1 : decode cX6_type 1 = .ok (.iconst 1, 1) := by decide +kernel
theorem dX6_type_2 : decode cX6_type 2 = .ok (.bipush 8, 2) := by decide +kernel
theorem dX6_type_4 : decode cX6_type 4 = .ok (.invokestatic 63, 3) := by decide +kernel
theorem dX6_type_7 : decode cX6_type 7 = .ok (.ifCond .ne 5, 3) := by decide +kernel
theorem dX6_type_10 : decode cX6_type 10 = .ok (.iconst (-1), 1) := by decide +kernel
theorem dX6_type_11 : decode cX6_type 11 = .ok (.ireturn, 1) := by decide +kernel
theorem dX6_type_12 : decode cX6_type 12 = .ok (.aload_n 0, 1) := by decide +kernel
theorem dX6_type_13 : decode cX6_type 13 = .ok (.getfield 19, 3) := by decide +kernel
theorem dX6_type_16 : decode cX6_type 16 = .ok (.iload_n 3, 1) := by decide +kernel
theorem dX6_type_17 : decode cX6_type 17 = .ok (.invokevirtual 79, 3) := by decide +kernel
theorem dX6_type_20 : decode cX6_type 20 = .ok (.ifCond .eq 15, 3) := by decide +kernel
theorem dX6_type_23 : decode cX6_type 23 = .ok (.aload_n 0, 1) := by decide +kernel
theorem dX6_type_24 : decode cX6_type 24 = .ok (.getfield 19, 3) := by decide +kernel
theorem dX6_type_27 : decode cX6_type 27 = .ok (.lload_n 1, 1) := by decide +kernel
theorem dX6_type_28 : decode cX6_type 28 = .ok (.iload_n 3, 1) := by decide +kernel
theorem dX6_type_29 : decode cX6_type 29 = .ok (.invokevirtual 83, 3) := by decide +kernel
theorem dX6_type_32 : decode cX6_type 32 = .ok (.goto 5, 3) := by decide +kernel
theorem dX6_type_35 : decode cX6_type 35 = .ok (.bipush (-3), 2) := by decide +kernel
theorem dX6_type_37 : decode cX6_type 37 = .ok (.ireturn, 1) := by decide +kernel
set_option maxRecDepth 20000 in
theorem ggX6_rule_X6_isRule : GoodIn wsX6_rule wsX6_isRule := goodIn_r _ [8, 9, 10, 7, 11] (by decide +kernel) (by decide +kernel)
set_option maxRecDepth 20000 in
theorem gX6_rule_X6_isRule : GoodIn wsX6_rule (va_wsS RX6 87 yX6_isRule wsX6_isRule) := goodIn_app (goodIn_of _ (by decide +kernel)) ggX6_rule_X6_isRule
set_option maxRecDepth 20000 in
theorem ggX6_rule_X1_directions : GoodIn wsX6_rule wsX1_directions := goodIn_r _ [16, 17, 44, 45, 46, 47] (by decide +kernel) (by decide +kernel)
set_option maxRecDepth 20000 in
theorem gX6_rule_X1_directions : GoodIn wsX6_rule (wsV RX6 55 RX1 yX1_directions wsX1_directions) := goodIn_app (goodIn_of _ (by decide +kernel)) ggX6_rule_X1_directions
set_option maxRecDepth 20000 in
theorem ggX6_rule_X4_setFromTape : GoodIn wsX6_rule wsX4_setFromTape := goodIn_r _ [22, 23, 24, 25, 26, 27, 21, 28, 48, 49, 50] (by decide +kernel) (by decide +kernel)
set_option maxRecDepth 20000 in
theorem gX6_rule_X4_setFromTape : GoodIn wsX6_rule (wsV RX6 93 RX4 yX4_setFromTape wsX4_setFromTape) := goodIn_app (goodIn_of _ (by decide +kernel)) ggX6_rule_X4_setFromTape
set_option maxRecDepth 20000 in
theorem ggX6_rule_X2_spoil : GoodIn wsX6_rule wsX2_spoil := goodIn_r _ [33, 34, 51, 52, 53, 54, 55, 56, 57] (by decide +kernel) (by decide +kernel)
set_option maxRecDepth 20000 in
theorem gX6_rule_X2_spoil : GoodIn wsX6_rule (wsV RX6 96 RX2 yX2_spoil wsX2_spoil) := goodIn_app (goodIn_of _ (by decide +kernel)) ggX6_rule_X2_spoil
theorem dX6_rule_0 : decode cX6_rule 0 = .ok (.iload_n 1, 1) := by decide +kernel
theorem dX6_rule_1 : decode cX6_rule 1 = .ok (.invokestatic 87, 3) := by decide +kernel
theorem dX6_rule_4 : decode cX6_rule 4 = .ok (.ifCond .ne 5, 3) := by decide +kernel
theorem dX6_rule_7 : decode cX6_rule 7 = .ok (.iconst (-1), 1) := by decide +kernel
theorem dX6_rule_8 : decode cX6_rule 8 = .ok (.ireturn, 1) := by decide +kernel
theorem dX6_rule_9 : decode cX6_rule 9 = .ok (.aload_n 0, 1) := by decide +kernel
theorem dX6_rule_10 : decode cX6_rule 10 = .ok (.getfield 19, 3) := by decide +kernel
theorem dX6_rule_13 : decode cX6_rule 13 = .ok (.iload_n 1, 1) := by decide +kernel
theorem dX6_rule_14 : decode cX6_rule 14 = .ok (.aload_n 0, 1) := by decide +kernel
theorem dX6_rule_15 : decode cX6_rule 15 = .ok (.getfield 12, 3) := by decide +kernel
theorem dX6_rule_18 : decode cX6_rule 18 = .ok (.getfield 90, 3) := by decide +kernel
theorem dX6_rule_21 : decode cX6_rule 21 = .ok (.aload_n 0, 1) := by decide +kernel
theorem dX6_rule_22 : decode cX6_rule 22 = .ok (.getfield 12, 3) := by decide +kernel
theorem dX6_rule_25 : decode cX6_rule 25 = .ok (.invokevirtual 55, 3) := by decide +kernel
theorem dX6_rule_28 : decode cX6_rule 28 = .ok (.invokevirtual 93, 3) := by decide +kernel
theorem dX6_rule_31 : decode cX6_rule 31 = .ok (.ifCond .ne 6, 3) := by decide +kernel
theorem dX6_rule_34 : decode cX6_rule 34 = .ok (.bipush (-2), 2) := by decide +kernel
theorem dX6_rule_36 : decode cX6_rule 36 = .ok (.ireturn, 1) := by decide +kernel
theorem dX6_rule_37 : decode cX6_rule 37 = .ok (.aload_n 0, 1) := by decide +kernel
theorem dX6_rule_38 : decode cX6_rule 38 = .ok (.getfield 44, 3) := by decide +kernel
theorem dX6_rule_41 : decode cX6_rule 41 = .ok (.invokevirtual 96, 3) := by decide +kernel
theorem dX6_rule_44 : decode cX6_rule 44 = .ok (.aload_n 0, 1) := by decide +kernel
theorem dX6_rule_45 : decode cX6_rule 45 = .ok (.getfield 12, 3) := by decide +kernel
theorem dX6_rule_48 : decode cX6_rule 48 = .ok (.getfield 90, 3) := by decide +kernel
theorem dX6_rule_51 : decode cX6_rule 51 = .ok (.ireturn, 1) := by decide +kernel
set_option maxRecDepth 20000 in
theorem ggX6_ant_X6_isOn : GoodIn wsX6_ant wsX6_isOn := goodIn_r _ [8] (by decide +kernel) (by decide +kernel)
set_option maxRecDepth 20000 in
theorem gX6_ant_X6_isOn : GoodIn wsX6_ant (va_wsS RX6 99 yX6_isOn wsX6_isOn) := goodIn_app (goodIn_of _ (by decide +kernel)) ggX6_ant_X6_isOn
set_option maxRecDepth 20000 in
theorem ggX6_ant_X1_directions : GoodIn wsX6_ant wsX1_directions := goodIn_r _ [13, 14, 45, 46, 47, 48] (by decide +kernel) (by decide +kernel)
set_option maxRecDepth 20000 in
theorem gX6_ant_X1_directions : GoodIn wsX6_ant (wsV RX6 55 RX1 yX1_directions wsX1_directions) := goodIn_app (goodIn_of _ (by decide +kernel)) ggX6_ant_X1_directions
set_option maxRecDepth 20000 in
theorem ggX6_ant_X6_isWithin : GoodIn wsX6_ant wsX6_isWithin := goodIn_r _ [17] (by decide +kernel) (by decide +kernel)
set_option maxRecDepth 20000 in
theorem gX6_ant_X6_isWithin : GoodIn wsX6_ant (va_wsS RX6 63 yX6_isWithin wsX6_isWithin) := goodIn_app (goodIn_of _ (by decide +kernel)) ggX6_ant_X6_isWithin
set_option maxRecDepth 20000 in
theorem ggX6_ant_X6_isRule : GoodIn wsX6_ant wsX6_isRule := goodIn_r _ [20, 15, 16, 7, 17] (by decide +kernel) (by decide +kernel)
set_option maxRecDepth 20000 in
theorem gX6_ant_X6_isRule : GoodIn wsX6_ant (va_wsS RX6 87 yX6_isRule wsX6_isRule) := goodIn_app (goodIn_of _ (by decide +kernel)) ggX6_ant_X6_isRule
set_option maxRecDepth 20000 in
theorem ggX6_ant_X0_put : GoodIn wsX6_ant wsX0_put := goodIn_r _ [25, 26, 27, 28, 29, 49, 50, 51, 52] (by decide +kernel) (by decide +kernel)
set_option maxRecDepth 20000 in
theorem gX6_ant_X0_put : GoodIn wsX6_ant (wsV RX6 103 RX0 yX0_put wsX0_put) := goodIn_app (goodIn_of _ (by decide +kernel)) ggX6_ant_X0_put
set_option maxRecDepth 20000 in
theorem ggX6_ant_X2_spoil : GoodIn wsX6_ant wsX2_spoil := goodIn_r _ [34, 35, 53, 54, 55, 56, 57, 58, 59] (by decide +kernel) (by decide +kernel)
set_option maxRecDepth 20000 in
theorem gX6_ant_X2_spoil : GoodIn wsX6_ant (wsV RX6 96 RX2 yX2_spoil wsX2_spoil) := goodIn_app (goodIn_of _ (by decide +kernel)) ggX6_ant_X2_spoil
theorem dX6_ant_0 : decode cX6_ant 0 = .ok (.iload_n 1, 1) := by decide +kernel
theorem dX6_ant_1 : decode cX6_ant 1 = .ok (.iload_n 2, 1) := by decide +kernel
theorem dX6_ant_2 : decode cX6_ant 2 = .ok (.invokestatic 99, 3) := by decide +kernel
theorem dX6_ant_5 : decode cX6_ant 5 = .ok (.ifCond .eq 28, 3) := by decide +kernel
theorem dX6_ant_8 : decode cX6_ant 8 = .ok (.iload_n 3, 1) := by decide +kernel
theorem dX6_ant_9 : decode cX6_ant 9 = .ok (.iconst 0, 1) := by decide +kernel
theorem dX6_ant_10 : decode cX6_ant 10 = .ok (.aload_n 0, 1) := by decide +kernel
theorem dX6_ant_11 : decode cX6_ant 11 = .ok (.getfield 12, 3) := by decide +kernel
theorem dX6_ant_14 : decode cX6_ant 14 = .ok (.invokevirtual 55, 3) := by decide +kernel
theorem dX6_ant_17 : decode cX6_ant 17 = .ok (.iconst 1, 1) := by decide +kernel
theorem dX6_ant_18 : decode cX6_ant 18 = .ok (.isub, 1) := by decide +kernel
theorem dX6_ant_19 : decode cX6_ant 19 = .ok (.invokestatic 63, 3) := by decide +kernel
