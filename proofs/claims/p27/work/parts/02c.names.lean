theorem dX6_ant_22 : decode cX6_ant 22 = .ok (.ifCond .eq 11, 3) := by decide +kernel
theorem dX6_ant_25 : decode cX6_ant 25 = .ok (.iload 4, 2) := by decide +kernel
theorem dX6_ant_27 : decode cX6_ant 27 = .ok (.invokestatic 87, 3) := by decide +kernel
theorem dX6_ant_30 : decode cX6_ant 30 = .ok (.ifCond .ne 5, 3) := by decide +kernel
theorem dX6_ant_33 : decode cX6_ant 33 = .ok (.iconst (-1), 1) := by decide +kernel
theorem dX6_ant_34 : decode cX6_ant 34 = .ok (.ireturn, 1) := by decide +kernel
theorem dX6_ant_35 : decode cX6_ant 35 = .ok (.aload_n 0, 1) := by decide +kernel
theorem dX6_ant_36 : decode cX6_ant 36 = .ok (.getfield 67, 3) := by decide +kernel
theorem dX6_ant_39 : decode cX6_ant 39 = .ok (.bipush 6, 2) := by decide +kernel
theorem dX6_ant_41 : decode cX6_ant 41 = .ok (.if_icmp .lt 6, 3) := by decide +kernel
theorem dX6_ant_44 : decode cX6_ant 44 = .ok (.bipush (-3), 2) := by decide +kernel
theorem dX6_ant_46 : decode cX6_ant 46 = .ok (.ireturn, 1) := by decide +kernel
theorem dX6_ant_47 : decode cX6_ant 47 = .ok (.aload_n 0, 1) := by decide +kernel
theorem dX6_ant_48 : decode cX6_ant 48 = .ok (.getfield 25, 3) := by decide +kernel
theorem dX6_ant_51 : decode cX6_ant 51 = .ok (.aload_n 0, 1) := by decide +kernel
theorem dX6_ant_52 : decode cX6_ant 52 = .ok (.getfield 67, 3) := by decide +kernel
theorem dX6_ant_55 : decode cX6_ant 55 = .ok (.aaload, 1) := by decide +kernel
theorem dX6_ant_56 : decode cX6_ant 56 = .ok (.iload_n 1, 1) := by decide +kernel
theorem dX6_ant_57 : decode cX6_ant 57 = .ok (.iload_n 2, 1) := by decide +kernel
theorem dX6_ant_58 : decode cX6_ant 58 = .ok (.iload_n 3, 1) := by decide +kernel
theorem dX6_ant_59 : decode cX6_ant 59 = .ok (.iload 4, 2) := by decide +kernel
theorem dX6_ant_61 : decode cX6_ant 61 = .ok (.invokevirtual 103, 3) := by decide +kernel
theorem dX6_ant_64 : decode cX6_ant 64 = .ok (.aload_n 0, 1) := by decide +kernel
theorem dX6_ant_65 : decode cX6_ant 65 = .ok (.dup, 1) := by decide +kernel
theorem dX6_ant_66 : decode cX6_ant 66 = .ok (.getfield 67, 3) := by decide +kernel
theorem dX6_ant_69 : decode cX6_ant 69 = .ok (.iconst 1, 1) := by decide +kernel
theorem dX6_ant_70 : decode cX6_ant 70 = .ok (.iadd, 1) := by decide +kernel
theorem dX6_ant_71 : decode cX6_ant 71 = .ok (.putfield 67, 3) := by decide +kernel
theorem dX6_ant_74 : decode cX6_ant 74 = .ok (.aload_n 0, 1) := by decide +kernel
theorem dX6_ant_75 : decode cX6_ant 75 = .ok (.getfield 44, 3) := by decide +kernel
theorem dX6_ant_78 : decode cX6_ant 78 = .ok (.invokevirtual 96, 3) := by decide +kernel
theorem dX6_ant_81 : decode cX6_ant 81 = .ok (.aload_n 0, 1) := by decide +kernel
theorem dX6_ant_82 : decode cX6_ant 82 = .ok (.getfield 67, 3) := by decide +kernel
theorem dX6_ant_85 : decode cX6_ant 85 = .ok (.iconst 1, 1) := by decide +kernel
theorem dX6_ant_86 : decode cX6_ant 86 = .ok (.isub, 1) := by decide +kernel
theorem dX6_ant_87 : decode cX6_ant 87 = .ok (.ireturn, 1) := by decide +kernel
set_option maxRecDepth 20000 in
theorem ggX6_told_X6_isWithin : GoodIn wsX6_told wsX6_isWithin := goodIn_r _ [10] (by decide +kernel) (by decide +kernel)
set_option maxRecDepth 20000 in
theorem gX6_told_X6_isWithin : GoodIn wsX6_told (va_wsS RX6 63 yX6_isWithin wsX6_isWithin) := goodIn_app (goodIn_of _ (by decide +kernel)) ggX6_told_X6_isWithin
theorem dX6_told_0 : decode cX6_told 0 = .ok (.iload_n 1, 1) := by decide +kernel
theorem dX6_told_1 : decode cX6_told 1 = .ok (.iconst 0, 1) := by decide +kernel
theorem dX6_told_2 : decode cX6_told 2 = .ok (.aload_n 0, 1) := by decide +kernel
theorem dX6_told_3 : decode cX6_told 3 = .ok (.getfield 67, 3) := by decide +kernel
theorem dX6_told_6 : decode cX6_told 6 = .ok (.iconst 1, 1) := by decide +kernel
theorem dX6_told_7 : decode cX6_told 7 = .ok (.isub, 1) := by decide +kernel
theorem dX6_told_8 : decode cX6_told 8 = .ok (.invokestatic 63, 3) := by decide +kernel
theorem dX6_told_11 : decode cX6_told 11 = .ok (.ifCond .ne 7, 3) := by decide +kernel
theorem dX6_told_14 : decode cX6_told 14 = .ok (.sipush (-1001), 3) := by decide +kernel
theorem dX6_told_17 : decode cX6_told 17 = .ok (.ireturn, 1) := by decide +kernel
theorem dX6_told_18 : decode cX6_told 18 = .ok (.iload_n 2, 1) := by decide +kernel
theorem dX6_told_19 : decode cX6_told 19 = .ok (.tableswitch 69 0 3 #[29, 39, 49, 59], 29) := by decide +kernel
theorem dX6_told_48 : decode cX6_told 48 = .ok (.aload_n 0, 1) := by decide +kernel
theorem dX6_told_49 : decode cX6_told 49 = .ok (.getfield 25, 3) := by decide +kernel
theorem dX6_told_52 : decode cX6_told 52 = .ok (.iload_n 1, 1) := by decide +kernel
theorem dX6_told_53 : decode cX6_told 53 = .ok (.aaload, 1) := by decide +kernel
theorem dX6_told_54 : decode cX6_told 54 = .ok (.getfield 114, 3) := by decide +kernel
theorem dX6_told_57 : decode cX6_told 57 = .ok (.ireturn, 1) := by decide +kernel
theorem dX6_told_58 : decode cX6_told 58 = .ok (.aload_n 0, 1) := by decide +kernel
theorem dX6_told_59 : decode cX6_told 59 = .ok (.getfield 25, 3) := by decide +kernel
theorem dX6_told_62 : decode cX6_told 62 = .ok (.iload_n 1, 1) := by decide +kernel
theorem dX6_told_63 : decode cX6_told 63 = .ok (.aaload, 1) := by decide +kernel
theorem dX6_told_64 : decode cX6_told 64 = .ok (.getfield 117, 3) := by decide +kernel
theorem dX6_told_67 : decode cX6_told 67 = .ok (.ireturn, 1) := by decide +kernel
theorem dX6_told_68 : decode cX6_told 68 = .ok (.aload_n 0, 1) := by decide +kernel
theorem dX6_told_69 : decode cX6_told 69 = .ok (.getfield 25, 3) := by decide +kernel
theorem dX6_told_72 : decode cX6_told 72 = .ok (.iload_n 1, 1) := by decide +kernel
theorem dX6_told_73 : decode cX6_told 73 = .ok (.aaload, 1) := by decide +kernel
theorem dX6_told_74 : decode cX6_told 74 = .ok (.getfield 120, 3) := by decide +kernel
theorem dX6_told_77 : decode cX6_told 77 = .ok (.ireturn, 1) := by decide +kernel
theorem dX6_told_78 : decode cX6_told 78 = .ok (.aload_n 0, 1) := by decide +kernel
theorem dX6_told_79 : decode cX6_told 79 = .ok (.getfield 25, 3) := by decide +kernel
theorem dX6_told_82 : decode cX6_told 82 = .ok (.iload_n 1, 1) := by decide +kernel
theorem dX6_told_83 : decode cX6_told 83 = .ok (.aaload, 1) := by decide +kernel
theorem dX6_told_84 : decode cX6_told 84 = .ok (.getfield 123, 3) := by decide +kernel
theorem dX6_told_87 : decode cX6_told 87 = .ok (.ireturn, 1) := by decide +kernel
theorem dX6_told_88 : decode cX6_told 88 = .ok (.sipush (-1001), 3) := by decide +kernel
theorem dX6_told_91 : decode cX6_told 91 = .ok (.ireturn, 1) := by decide +kernel
set_option maxRecDepth 20000 in
theorem ggX6_run_X6_isWithin : GoodIn wsX6_run wsX6_isWithin := goodIn_r _ [4] (by decide +kernel) (by decide +kernel)
set_option maxRecDepth 20000 in
theorem gX6_run_X6_isWithin : GoodIn wsX6_run (va_wsS RX6 63 yX6_isWithin wsX6_isWithin) := goodIn_app (goodIn_of _ (by decide +kernel)) ggX6_run_X6_isWithin
set_option maxRecDepth 20000 in
theorem ggX6_run_X6_stepAhead : GoodIn wsX6_run wsX6_stepAhead := goodIn_r _ [8, 9, 10, 11, 12, 13, 14, 15, 16, 17, 3, 18, 19, 20, 21, 22, 23, 24, 25, 26, 27, 28, 29, 30, 31, 32, 33, 34, 35, 36, 37, 38, 39, 40, 41, 42, 43, 44, 45, 46, 47, 48, 49, 50, 51, 52, 53, 54, 55, 56, 57, 58, 59, 60, 61, 62, 63, 64, 65, 66, 67, 68, 69, 70, 71, 72, 73, 74, 75, 76, 77, 78, 79, 80, 81, 82, 83, 84, 85, 86, 87, 88, 89, 90, 91, 92, 93, 94, 95, 109, 110, 111, 112, 113, 114, 115, 116, 117, 118, 119, 120, 121, 122, 123, 124, 125, 126, 127, 128, 129, 130, 131, 132, 133, 134, 135, 136, 137, 138, 139, 140] (by decide +kernel) (by decide +kernel)
set_option maxRecDepth 20000 in
theorem gX6_run_X6_stepAhead : GoodIn wsX6_run (wsV RX6 126 RX6 yX6_stepAhead wsX6_stepAhead) := goodIn_app (goodIn_of _ (by decide +kernel)) ggX6_run_X6_stepAhead
set_option maxRecDepth 20000 in
theorem ggX6_run_X6_stepBack : GoodIn wsX6_run wsX6_stepBack := goodIn_r _ [99, 9, 11, 14, 15, 65, 66, 67, 3, 68, 12, 26, 28, 13, 27, 32, 29, 30, 31, 33, 44, 45, 46, 37, 47, 43, 48, 49, 50, 51, 16, 17, 18, 19, 20, 21, 34, 35, 36, 38, 39, 40, 41, 42, 52, 53, 54, 55, 56, 57, 58, 59, 60, 100, 101, 102, 103, 22, 23, 24, 25, 104, 105, 106, 72, 107, 108, 109, 110, 111, 112, 113, 114, 115, 116, 117, 118, 119, 120, 121, 122, 123, 124, 125, 126, 127, 128, 129, 130, 131, 132, 133, 134, 135] (by decide +kernel) (by decide +kernel)
set_option maxRecDepth 20000 in
theorem gX6_run_X6_stepBack : GoodIn wsX6_run (wsV RX6 130 RX6 yX6_stepBack wsX6_stepBack) := goodIn_app (goodIn_of _ (by decide +kernel)) ggX6_run_X6_stepBack
theorem dX6_run_0 : decode cX6_run 0 = .ok (.iload_n 1, 1) := by decide +kernel
theorem dX6_run_1 : decode cX6_run 1 = .ok (.ifCond .eq 16, 3) := by decide +kernel
theorem dX6_run_4 : decode cX6_run 4 = .ok (.iload_n 1, 1) := by decide +kernel
theorem dX6_run_5 : decode cX6_run 5 = .ok (.sipush (-2000), 3) := by decide +kernel
theorem dX6_run_8 : decode cX6_run 8 = .ok (.sipush 2000, 3) := by decide +kernel
theorem dX6_run_11 : decode cX6_run 11 = .ok (.invokestatic 63, 3) := by decide +kernel
theorem dX6_run_14 : decode cX6_run 14 = .ok (.ifCond .ne 5, 3) := by decide +kernel
theorem dX6_run_17 : decode cX6_run 17 = .ok (.iconst (-1), 1) := by decide +kernel
theorem dX6_run_18 : decode cX6_run 18 = .ok (.ireturn, 1) := by decide +kernel
theorem dX6_run_19 : decode cX6_run 19 = .ok (.iload_n 1, 1) := by decide +kernel
theorem dX6_run_20 : decode cX6_run 20 = .ok (.ifCond .le 7, 3) := by decide +kernel
theorem dX6_run_23 : decode cX6_run 23 = .ok (.iload_n 1, 1) := by decide +kernel
theorem dX6_run_24 : decode cX6_run 24 = .ok (.goto 5, 3) := by decide +kernel
theorem dX6_run_27 : decode cX6_run 27 = .ok (.iload_n 1, 1) := by decide +kernel
theorem dX6_run_28 : decode cX6_run 28 = .ok (.ineg, 1) := by decide +kernel
theorem dX6_run_29 : decode cX6_run 29 = .ok (.istore_n 2, 1) := by decide +kernel
theorem dX6_run_30 : decode cX6_run 30 = .ok (.iconst 0, 1) := by decide +kernel
theorem dX6_run_31 : decode cX6_run 31 = .ok (.istore_n 3, 1) := by decide +kernel
theorem dX6_run_32 : decode cX6_run 32 = .ok (.iload_n 3, 1) := by decide +kernel
theorem dX6_run_33 : decode cX6_run 33 = .ok (.iload_n 2, 1) := by decide +kernel
theorem dX6_run_34 : decode cX6_run 34 = .ok (.if_icmp .ge 30, 3) := by decide +kernel
theorem dX6_run_37 : decode cX6_run 37 = .ok (.iload_n 1, 1) := by decide +kernel
theorem dX6_run_38 : decode cX6_run 38 = .ok (.ifCond .le 13, 3) := by decide +kernel
theorem dX6_run_41 : decode cX6_run 41 = .ok (.aload_n 0, 1) := by decide +kernel
theorem dX6_run_42 : decode cX6_run 42 = .ok (.invokevirtual 126, 3) := by decide +kernel
theorem dX6_run_45 : decode cX6_run 45 = .ok (.ifCond .eq 19, 3) := by decide +kernel
theorem dX6_run_48 : decode cX6_run 48 = .ok (.goto 10, 3) := by decide +kernel
theorem dX6_run_51 : decode cX6_run 51 = .ok (.aload_n 0, 1) := by decide +kernel
theorem dX6_run_52 : decode cX6_run 52 = .ok (.invokevirtual 130, 3) := by decide +kernel
theorem dX6_run_55 : decode cX6_run 55 = .ok (.ifCond .eq 9, 3) := by decide +kernel
theorem dX6_run_58 : decode cX6_run 58 = .ok (.iinc 3 1, 3) := by decide +kernel
theorem dX6_run_61 : decode cX6_run 61 = .ok (.goto (-29), 3) := by decide +kernel
theorem dX6_run_64 : decode cX6_run 64 = .ok (.iload_n 3, 1) := by decide +kernel
theorem dX6_run_65 : decode cX6_run 65 = .ok (.ifCond .ne 8, 3) := by decide +kernel
theorem dX6_run_68 : decode cX6_run 68 = .ok (.bipush (-4), 2) := by decide +kernel
theorem dX6_run_70 : decode cX6_run 70 = .ok (.goto 4, 3) := by decide +kernel
theorem dX6_run_73 : decode cX6_run 73 = .ok (.iload_n 3, 1) := by decide +kernel
theorem dX6_run_74 : decode cX6_run 74 = .ok (.ireturn, 1) := by decide +kernel
theorem dX6_time_0 : decode cX6_time 0 = .ok (.aload_n 0, 1) := by decide +kernel
theorem dX6_time_1 : decode cX6_time 1 = .ok (.getfield 76, 3) := by decide +kernel
theorem dX6_time_4 : decode cX6_time 4 = .ok (.ireturn, 1) := by decide +kernel
set_option maxRecDepth 20000 in
theorem ggX6_visits_X6_placeOf : GoodIn wsX6_visits wsX6_placeOf := goodIn_r _ [7, 8, 9, 6, 10] (by decide +kernel) (by decide +kernel)
set_option maxRecDepth 20000 in
theorem gX6_visits_X6_placeOf : GoodIn wsX6_visits (va_wsS RX6 107 yX6_placeOf wsX6_placeOf) := goodIn_app (goodIn_of _ (by decide +kernel)) ggX6_visits_X6_placeOf
theorem dX6_visits_0 : decode cX6_visits 0 = .ok (.iload_n 1, 1) := by decide +kernel
theorem dX6_visits_1 : decode cX6_visits 1 = .ok (.iload_n 2, 1) := by decide +kernel
theorem dX6_visits_2 : decode cX6_visits 2 = .ok (.invokestatic 107, 3) := by decide +kernel
theorem dX6_visits_5 : decode cX6_visits 5 = .ok (.istore_n 3, 1) := by decide +kernel
theorem dX6_visits_6 : decode cX6_visits 6 = .ok (.iload_n 3, 1) := by decide +kernel
theorem dX6_visits_7 : decode cX6_visits 7 = .ok (.ifCond .ge 8, 3) := by decide +kernel
theorem dX6_visits_10 : decode cX6_visits 10 = .ok (.ldc 149, 2) := by decide +kernel
theorem dX6_visits_12 : decode cX6_visits 12 = .ok (.goto 12, 3) := by decide +kernel
theorem dX6_visits_15 : decode cX6_visits 15 = .ok (.aload_n 0, 1) := by decide +kernel
theorem dX6_visits_16 : decode cX6_visits 16 = .ok (.getfield 12, 3) := by decide +kernel
theorem dX6_visits_19 : decode cX6_visits 19 = .ok (.getfield 150, 3) := by decide +kernel
theorem dX6_visits_22 : decode cX6_visits 22 = .ok (.iload_n 3, 1) := by decide +kernel
theorem dX6_visits_23 : decode cX6_visits 23 = .ok (.iaload, 1) := by decide +kernel
theorem dX6_visits_24 : decode cX6_visits 24 = .ok (.ireturn, 1) := by decide +kernel
set_option maxRecDepth 20000 in
theorem ggX6_count_X6_howMany : GoodIn wsX6_count wsX6_howMany := goodIn_r _ [13] (by decide +kernel) (by decide +kernel)
set_option maxRecDepth 20000 in
theorem gX6_count_X6_howMany : GoodIn wsX6_count (va_wsS RX6 154 yX6_howMany wsX6_howMany) := goodIn_app (goodIn_of _ (by decide +kernel)) ggX6_count_X6_howMany
set_option maxRecDepth 20000 in
theorem ggX6_count_X6_isWithin : GoodIn wsX6_count wsX6_isWithin := goodIn_r _ [16] (by decide +kernel) (by decide +kernel)
set_option maxRecDepth 20000 in
theorem gX6_count_X6_isWithin : GoodIn wsX6_count (va_wsS RX6 63 yX6_isWithin wsX6_isWithin) := goodIn_app (goodIn_of _ (by decide +kernel)) ggX6_count_X6_isWithin
theorem dX6_count_0 : decode cX6_count 0 = .ok (.iload_n 1, 1) := by decide +kernel
theorem dX6_count_1 : decode cX6_count 1 = .ok (.tableswitch 98 0 5 #[39, 44, 59, 67, 82, 90], 39) := by decide +kernel
theorem dX6_count_40 : decode cX6_count 40 = .ok (.aload_n 0, 1) := by decide +kernel
theorem dX6_count_41 : decode cX6_count 41 = .ok (.getfield 67, 3) := by decide +kernel
theorem dX6_count_44 : decode cX6_count 44 = .ok (.ireturn, 1) := by decide +kernel
theorem dX6_count_45 : decode cX6_count 45 = .ok (.ldc 153, 2) := by decide +kernel
theorem dX6_count_47 : decode cX6_count 47 = .ok (.aload_n 0, 1) := by decide +kernel
theorem dX6_count_48 : decode cX6_count 48 = .ok (.getfield 12, 3) := by decide +kernel
theorem dX6_count_51 : decode cX6_count 51 = .ok (.getfield 111, 3) := by decide +kernel
theorem dX6_count_54 : decode cX6_count 54 = .ok (.iconst 0, 1) := by decide +kernel
theorem dX6_count_55 : decode cX6_count 55 = .ok (.invokestatic 154, 3) := by decide +kernel
theorem dX6_count_58 : decode cX6_count 58 = .ok (.isub, 1) := by decide +kernel
theorem dX6_count_59 : decode cX6_count 59 = .ok (.ireturn, 1) := by decide +kernel
theorem dX6_count_60 : decode cX6_count 60 = .ok (.aload_n 0, 1) := by decide +kernel
theorem dX6_count_61 : decode cX6_count 61 = .ok (.getfield 37, 3) := by decide +kernel
theorem dX6_count_64 : decode cX6_count 64 = .ok (.getfield 158, 3) := by decide +kernel
theorem dX6_count_67 : decode cX6_count 67 = .ok (.ireturn, 1) := by decide +kernel
theorem dX6_count_68 : decode cX6_count 68 = .ok (.ldc 153, 2) := by decide +kernel
theorem dX6_count_70 : decode cX6_count 70 = .ok (.aload_n 0, 1) := by decide +kernel
theorem dX6_count_71 : decode cX6_count 71 = .ok (.getfield 12, 3) := by decide +kernel
theorem dX6_count_74 : decode cX6_count 74 = .ok (.getfield 150, 3) := by decide +kernel
theorem dX6_count_77 : decode cX6_count 77 = .ok (.iconst 0, 1) := by decide +kernel
theorem dX6_count_78 : decode cX6_count 78 = .ok (.invokestatic 154, 3) := by decide +kernel
theorem dX6_count_81 : decode cX6_count 81 = .ok (.isub, 1) := by decide +kernel
theorem dX6_count_82 : decode cX6_count 82 = .ok (.ireturn, 1) := by decide +kernel
theorem dX6_count_83 : decode cX6_count 83 = .ok (.aload_n 0, 1) := by decide +kernel
theorem dX6_count_84 : decode cX6_count 84 = .ok (.getfield 12, 3) := by decide +kernel
theorem dX6_count_87 : decode cX6_count 87 = .ok (.getfield 90, 3) := by decide +kernel
theorem dX6_count_90 : decode cX6_count 90 = .ok (.ireturn, 1) := by decide +kernel
theorem dX6_count_91 : decode cX6_count 91 = .ok (.aload_n 0, 1) := by decide +kernel
theorem dX6_count_92 : decode cX6_count 92 = .ok (.getfield 12, 3) := by decide +kernel
theorem dX6_count_95 : decode cX6_count 95 = .ok (.getfield 161, 3) := by decide +kernel
theorem dX6_count_98 : decode cX6_count 98 = .ok (.ireturn, 1) := by decide +kernel
theorem dX6_count_99 : decode cX6_count 99 = .ok (.iload_n 1, 1) := by decide +kernel
theorem dX6_count_100 : decode cX6_count 100 = .ok (.bipush 10, 2) := by decide +kernel
theorem dX6_count_102 : decode cX6_count 102 = .ok (.bipush 10, 2) := by decide +kernel
theorem dX6_count_104 : decode cX6_count 104 = .ok (.aload_n 0, 1) := by decide +kernel
theorem dX6_count_105 : decode cX6_count 105 = .ok (.getfield 12, 3) := by decide +kernel
theorem dX6_count_108 : decode cX6_count 108 = .ok (.getfield 90, 3) := by decide +kernel
theorem dX6_count_111 : decode cX6_count 111 = .ok (.iadd, 1) := by decide +kernel
theorem dX6_count_112 : decode cX6_count 112 = .ok (.iconst 1, 1) := by decide +kernel
theorem dX6_count_113 : decode cX6_count 113 = .ok (.isub, 1) := by decide +kernel
theorem dX6_count_114 : decode cX6_count 114 = .ok (.invokestatic 63, 3) := by decide +kernel
theorem dX6_count_117 : decode cX6_count 117 = .ok (.ifCond .ne 5, 3) := by decide +kernel
theorem dX6_count_120 : decode cX6_count 120 = .ok (.iconst (-1), 1) := by decide +kernel
theorem dX6_count_121 : decode cX6_count 121 = .ok (.ireturn, 1) := by decide +kernel
theorem dX6_count_122 : decode cX6_count 122 = .ok (.aload_n 0, 1) := by decide +kernel
theorem dX6_count_123 : decode cX6_count 123 = .ok (.getfield 12, 3) := by decide +kernel
theorem dX6_count_126 : decode cX6_count 126 = .ok (.getfield 111, 3) := by decide +kernel
theorem dX6_count_129 : decode cX6_count 129 = .ok (.iload_n 1, 1) := by decide +kernel
theorem dX6_count_130 : decode cX6_count 130 = .ok (.bipush 10, 2) := by decide +kernel
theorem dX6_count_132 : decode cX6_count 132 = .ok (.isub, 1) := by decide +kernel
theorem dX6_count_133 : decode cX6_count 133 = .ok (.invokestatic 154, 3) := by decide +kernel
theorem dX6_count_136 : decode cX6_count 136 = .ok (.ireturn, 1) := by decide +kernel
theorem dX6_digest_0 : decode cX6_digest 0 = .ok (.ldc2_w 180, 3) := by decide +kernel
theorem dX6_digest_3 : decode cX6_digest 3 = .ok (.lstore_n 1, 1) := by decide +kernel
theorem dX6_digest_4 : decode cX6_digest 4 = .ok (.sipush 239, 3) := by decide +kernel
theorem dX6_digest_7 : decode cX6_digest 7 = .ok (.istore_n 3, 1) := by decide +kernel
theorem dX6_digest_8 : decode cX6_digest 8 = .ok (.iload_n 3, 1) := by decide +kernel
theorem dX6_digest_9 : decode cX6_digest 9 = .ok (.ifCond .lt 54, 3) := by decide +kernel
theorem dX6_digest_12 : decode cX6_digest 12 = .ok (.iload_n 3, 1) := by decide +kernel
theorem dX6_digest_13 : decode cX6_digest 13 = .ok (.sipush 240, 3) := by decide +kernel
theorem dX6_digest_16 : decode cX6_digest 16 = .ok (.imul, 1) := by decide +kernel
theorem dX6_digest_17 : decode cX6_digest 17 = .ok (.istore 4, 2) := by decide +kernel
theorem dX6_digest_19 : decode cX6_digest 19 = .ok (.iconst 0, 1) := by decide +kernel
theorem dX6_digest_20 : decode cX6_digest 20 = .ok (.istore 5, 2) := by decide +kernel
theorem dX6_digest_22 : decode cX6_digest 22 = .ok (.iload 5, 2) := by decide +kernel
theorem dX6_digest_24 : decode cX6_digest 24 = .ok (.sipush 240, 3) := by decide +kernel
theorem dX6_digest_27 : decode cX6_digest 27 = .ok (.if_icmp .ge 30, 3) := by decide +kernel
theorem dX6_digest_30 : decode cX6_digest 30 = .ok (.ldc2_w 182, 3) := by decide +kernel
theorem dX6_digest_33 : decode cX6_digest 33 = .ok (.lload_n 1, 1) := by decide +kernel
theorem dX6_digest_34 : decode cX6_digest 34 = .ok (.lmul, 1) := by decide +kernel
theorem dX6_digest_35 : decode cX6_digest 35 = .ok (.aload_n 0, 1) := by decide +kernel
theorem dX6_digest_36 : decode cX6_digest 36 = .ok (.getfield 12, 3) := by decide +kernel
theorem dX6_digest_39 : decode cX6_digest 39 = .ok (.getfield 111, 3) := by decide +kernel
theorem dX6_digest_42 : decode cX6_digest 42 = .ok (.iload 4, 2) := by decide +kernel
theorem dX6_digest_44 : decode cX6_digest 44 = .ok (.iload 5, 2) := by decide +kernel
theorem dX6_digest_46 : decode cX6_digest 46 = .ok (.iadd, 1) := by decide +kernel
theorem dX6_digest_47 : decode cX6_digest 47 = .ok (.iaload, 1) := by decide +kernel
theorem dX6_digest_48 : decode cX6_digest 48 = .ok (.i2l, 1) := by decide +kernel
theorem dX6_digest_49 : decode cX6_digest 49 = .ok (.ladd, 1) := by decide +kernel
theorem dX6_digest_50 : decode cX6_digest 50 = .ok (.lstore_n 1, 1) := by decide +kernel
theorem dX6_digest_51 : decode cX6_digest 51 = .ok (.iinc 5 1, 3) := by decide +kernel
theorem dX6_digest_54 : decode cX6_digest 54 = .ok (.goto (-32), 3) := by decide +kernel
theorem dX6_digest_57 : decode cX6_digest 57 = .ok (.iinc 3 (-1), 3) := by decide +kernel
theorem dX6_digest_60 : decode cX6_digest 60 = .ok (.goto (-52), 3) := by decide +kernel
theorem dX6_digest_63 : decode cX6_digest 63 = .ok (.iconst 0, 1) := by decide +kernel
theorem dX6_digest_64 : decode cX6_digest 64 = .ok (.istore_n 3, 1) := by decide +kernel
theorem dX6_digest_65 : decode cX6_digest 65 = .ok (.iload_n 3, 1) := by decide +kernel
theorem dX6_digest_66 : decode cX6_digest 66 = .ok (.aload_n 0, 1) := by decide +kernel
theorem dX6_digest_67 : decode cX6_digest 67 = .ok (.getfield 67, 3) := by decide +kernel
theorem dX6_digest_70 : decode cX6_digest 70 = .ok (.if_icmp .ge 69, 3) := by decide +kernel
theorem dX6_digest_73 : decode cX6_digest 73 = .ok (.aload_n 0, 1) := by decide +kernel
theorem dX6_digest_74 : decode cX6_digest 74 = .ok (.getfield 25, 3) := by decide +kernel
theorem dX6_digest_77 : decode cX6_digest 77 = .ok (.iload_n 3, 1) := by decide +kernel
theorem dX6_digest_78 : decode cX6_digest 78 = .ok (.aaload, 1) := by decide +kernel
theorem dX6_digest_79 : decode cX6_digest 79 = .ok (.astore 4, 2) := by decide +kernel
theorem dX6_digest_81 : decode cX6_digest 81 = .ok (.ldc2_w 182, 3) := by decide +kernel
theorem dX6_digest_84 : decode cX6_digest 84 = .ok (.lload_n 1, 1) := by decide +kernel
theorem dX6_digest_85 : decode cX6_digest 85 = .ok (.lmul, 1) := by decide +kernel
theorem dX6_digest_86 : decode cX6_digest 86 = .ok (.aload 4, 2) := by decide +kernel
theorem dX6_digest_88 : decode cX6_digest 88 = .ok (.getfield 114, 3) := by decide +kernel
theorem dX6_digest_91 : decode cX6_digest 91 = .ok (.i2l, 1) := by decide +kernel
theorem dX6_digest_92 : decode cX6_digest 92 = .ok (.ladd, 1) := by decide +kernel
theorem dX6_digest_93 : decode cX6_digest 93 = .ok (.lstore_n 1, 1) := by decide +kernel
theorem dX6_digest_94 : decode cX6_digest 94 = .ok (.ldc2_w 182, 3) := by decide +kernel
theorem dX6_digest_97 : decode cX6_digest 97 = .ok (.lload_n 1, 1) := by decide +kernel
theorem dX6_digest_98 : decode cX6_digest 98 = .ok (.lmul, 1) := by decide +kernel
theorem dX6_digest_99 : decode cX6_digest 99 = .ok (.aload 4, 2) := by decide +kernel
theorem dX6_digest_101 : decode cX6_digest 101 = .ok (.getfield 117, 3) := by decide +kernel
theorem dX6_digest_104 : decode cX6_digest 104 = .ok (.i2l, 1) := by decide +kernel
theorem dX6_digest_105 : decode cX6_digest 105 = .ok (.ladd, 1) := by decide +kernel
theorem dX6_digest_106 : decode cX6_digest 106 = .ok (.lstore_n 1, 1) := by decide +kernel
theorem dX6_digest_107 : decode cX6_digest 107 = .ok (.ldc2_w 182, 3) := by decide +kernel
theorem dX6_digest_110 : decode cX6_digest 110 = .ok (.lload_n 1, 1) := by decide +kernel
theorem dX6_digest_111 : decode cX6_digest 111 = .ok (.lmul, 1) := by decide +kernel
theorem dX6_digest_112 : decode cX6_digest 112 = .ok (.aload 4, 2) := by decide +kernel
theorem dX6_digest_114 : decode cX6_digest 114 = .ok (.getfield 120, 3) := by decide +kernel
theorem dX6_digest_117 : decode cX6_digest 117 = .ok (.i2l, 1) := by decide +kernel
theorem dX6_digest_118 : decode cX6_digest 118 = .ok (.ladd, 1) := by decide +kernel
theorem dX6_digest_119 : decode cX6_digest 119 = .ok (.lstore_n 1, 1) := by decide +kernel
theorem dX6_digest_120 : decode cX6_digest 120 = .ok (.ldc2_w 182, 3) := by decide +kernel
theorem dX6_digest_123 : decode cX6_digest 123 = .ok (.lload_n 1, 1) := by decide +kernel
theorem dX6_digest_124 : decode cX6_digest 124 = .ok (.lmul, 1) := by decide +kernel
theorem dX6_digest_125 : decode cX6_digest 125 = .ok (.aload 4, 2) := by decide +kernel
theorem dX6_digest_127 : decode cX6_digest 127 = .ok (.getfield 123, 3) := by decide +kernel
theorem dX6_digest_130 : decode cX6_digest 130 = .ok (.i2l, 1) := by decide +kernel
theorem dX6_digest_131 : decode cX6_digest 131 = .ok (.ladd, 1) := by decide +kernel
theorem dX6_digest_132 : decode cX6_digest 132 = .ok (.lstore_n 1, 1) := by decide +kernel
theorem dX6_digest_133 : decode cX6_digest 133 = .ok (.iinc 3 1, 3) := by decide +kernel
theorem dX6_digest_136 : decode cX6_digest 136 = .ok (.goto (-71), 3) := by decide +kernel
theorem dX6_digest_139 : decode cX6_digest 139 = .ok (.lload_n 1, 1) := by decide +kernel
theorem dX6_digest_140 : decode cX6_digest 140 = .ok (.lreturn, 1) := by decide +kernel
theorem dX6_isWithin_0 : decode cX6_isWithin 0 = .ok (.iload_n 0, 1) := by decide +kernel
theorem dX6_isWithin_1 : decode cX6_isWithin 1 = .ok (.iload_n 1, 1) := by decide +kernel
theorem dX6_isWithin_2 : decode cX6_isWithin 2 = .ok (.if_icmp .lt 12, 3) := by decide +kernel
theorem dX6_isWithin_5 : decode cX6_isWithin 5 = .ok (.iload_n 0, 1) := by decide +kernel
theorem dX6_isWithin_6 : decode cX6_isWithin 6 = .ok (.iload_n 2, 1) := by decide +kernel
theorem dX6_isWithin_7 : decode cX6_isWithin 7 = .ok (.if_icmp .gt 7, 3) := by decide +kernel
theorem dX6_isWithin_10 : decode cX6_isWithin 10 = .ok (.iconst 1, 1) := by decide +kernel
theorem dX6_isWithin_11 : decode cX6_isWithin 11 = .ok (.goto 4, 3) := by decide +kernel
theorem dX6_isWithin_14 : decode cX6_isWithin 14 = .ok (.iconst 0, 1) := by decide +kernel
theorem dX6_isWithin_15 : decode cX6_isWithin 15 = .ok (.ireturn, 1) := by decide +kernel
theorem dX6_isOn_0 : decode cX6_isOn 0 = .ok (.iload_n 0, 1) := by decide +kernel
theorem dX6_isOn_1 : decode cX6_isOn 1 = .ok (.bipush (-120), 2) := by decide +kernel
theorem dX6_isOn_3 : decode cX6_isOn 3 = .ok (.if_icmp .lt 25, 3) := by decide +kernel
theorem dX6_isOn_6 : decode cX6_isOn 6 = .ok (.iload_n 0, 1) := by decide +kernel
theorem dX6_isOn_7 : decode cX6_isOn 7 = .ok (.bipush 119, 2) := by decide +kernel
theorem dX6_isOn_9 : decode cX6_isOn 9 = .ok (.if_icmp .gt 19, 3) := by decide +kernel
theorem dX6_isOn_12 : decode cX6_isOn 12 = .ok (.iload_n 1, 1) := by decide +kernel
theorem dX6_isOn_13 : decode cX6_isOn 13 = .ok (.bipush (-120), 2) := by decide +kernel
theorem dX6_isOn_15 : decode cX6_isOn 15 = .ok (.if_icmp .lt 13, 3) := by decide +kernel
theorem dX6_isOn_18 : decode cX6_isOn 18 = .ok (.iload_n 1, 1) := by decide +kernel
theorem dX6_isOn_19 : decode cX6_isOn 19 = .ok (.bipush 119, 2) := by decide +kernel
theorem dX6_isOn_21 : decode cX6_isOn 21 = .ok (.if_icmp .gt 7, 3) := by decide +kernel
theorem dX6_isOn_24 : decode cX6_isOn 24 = .ok (.iconst 1, 1) := by decide +kernel
theorem dX6_isOn_25 : decode cX6_isOn 25 = .ok (.goto 4, 3) := by decide +kernel
theorem dX6_isOn_28 : decode cX6_isOn 28 = .ok (.iconst 0, 1) := by decide +kernel
theorem dX6_isOn_29 : decode cX6_isOn 29 = .ok (.ireturn, 1) := by decide +kernel
set_option maxRecDepth 20000 in
theorem ggX6_isRule_X6_isWithin : GoodIn wsX6_isRule wsX6_isWithin := goodIn_r _ [4] (by decide +kernel) (by decide +kernel)
set_option maxRecDepth 20000 in
theorem gX6_isRule_X6_isWithin : GoodIn wsX6_isRule (va_wsS RX6 63 yX6_isWithin wsX6_isWithin) := goodIn_app (goodIn_of _ (by decide +kernel)) ggX6_isRule_X6_isWithin
theorem dX6_isRule_0 : decode cX6_isRule 0 = .ok (.iload_n 0, 1) := by decide +kernel
theorem dX6_isRule_1 : decode cX6_isRule 1 = .ok (.iconst 0, 1) := by decide +kernel
theorem dX6_isRule_2 : decode cX6_isRule 2 = .ok (.iconst 3, 1) := by decide +kernel
theorem dX6_isRule_3 : decode cX6_isRule 3 = .ok (.invokestatic 63, 3) := by decide +kernel
theorem dX6_isRule_6 : decode cX6_isRule 6 = .ok (.ireturn, 1) := by decide +kernel
set_option maxRecDepth 20000 in
theorem ggX6_placeOf_X6_isOn : GoodIn wsX6_placeOf wsX6_isOn := goodIn_r _ [4] (by decide +kernel) (by decide +kernel)
set_option maxRecDepth 20000 in
theorem gX6_placeOf_X6_isOn : GoodIn wsX6_placeOf (va_wsS RX6 99 yX6_isOn wsX6_isOn) := goodIn_app (goodIn_of _ (by decide +kernel)) ggX6_placeOf_X6_isOn
theorem dX6_placeOf_0 : decode cX6_placeOf 0 = .ok (.iload_n 0, 1) := by decide +kernel
theorem dX6_placeOf_1 : decode cX6_placeOf 1 = .ok (.iload_n 1, 1) := by decide +kernel
theorem dX6_placeOf_2 : decode cX6_placeOf 2 = .ok (.invokestatic 99, 3) := by decide +kernel
theorem dX6_placeOf_5 : decode cX6_placeOf 5 = .ok (.ifCond .eq 19, 3) := by decide +kernel
theorem dX6_placeOf_8 : decode cX6_placeOf 8 = .ok (.iload_n 1, 1) := by decide +kernel
theorem dX6_placeOf_9 : decode cX6_placeOf 9 = .ok (.bipush (-120), 2) := by decide +kernel
theorem dX6_placeOf_11 : decode cX6_placeOf 11 = .ok (.isub, 1) := by decide +kernel
theorem dX6_placeOf_12 : decode cX6_placeOf 12 = .ok (.sipush 240, 3) := by decide +kernel
theorem dX6_placeOf_15 : decode cX6_placeOf 15 = .ok (.imul, 1) := by decide +kernel
theorem dX6_placeOf_16 : decode cX6_placeOf 16 = .ok (.iload_n 0, 1) := by decide +kernel
theorem dX6_placeOf_17 : decode cX6_placeOf 17 = .ok (.bipush (-120), 2) := by decide +kernel
theorem dX6_placeOf_19 : decode cX6_placeOf 19 = .ok (.isub, 1) := by decide +kernel
theorem dX6_placeOf_20 : decode cX6_placeOf 20 = .ok (.iadd, 1) := by decide +kernel
theorem dX6_placeOf_21 : decode cX6_placeOf 21 = .ok (.goto 4, 3) := by decide +kernel
theorem dX6_placeOf_24 : decode cX6_placeOf 24 = .ok (.iconst (-1), 1) := by decide +kernel
theorem dX6_placeOf_25 : decode cX6_placeOf 25 = .ok (.ireturn, 1) := by decide +kernel
theorem dX6_howMany_0 : decode cX6_howMany 0 = .ok (.iconst 0, 1) := by decide +kernel
theorem dX6_howMany_1 : decode cX6_howMany 1 = .ok (.istore_n 2, 1) := by decide +kernel
theorem dX6_howMany_2 : decode cX6_howMany 2 = .ok (.iconst 0, 1) := by decide +kernel
theorem dX6_howMany_3 : decode cX6_howMany 3 = .ok (.istore_n 3, 1) := by decide +kernel
theorem dX6_howMany_4 : decode cX6_howMany 4 = .ok (.iload_n 3, 1) := by decide +kernel
theorem dX6_howMany_5 : decode cX6_howMany 5 = .ok (.aload_n 0, 1) := by decide +kernel
theorem dX6_howMany_6 : decode cX6_howMany 6 = .ok (.arraylength, 1) := by decide +kernel
theorem dX6_howMany_7 : decode cX6_howMany 7 = .ok (.if_icmp .ge 19, 3) := by decide +kernel
theorem dX6_howMany_10 : decode cX6_howMany 10 = .ok (.aload_n 0, 1) := by decide +kernel
theorem dX6_howMany_11 : decode cX6_howMany 11 = .ok (.iload_n 3, 1) := by decide +kernel
theorem dX6_howMany_12 : decode cX6_howMany 12 = .ok (.iaload, 1) := by decide +kernel
theorem dX6_howMany_13 : decode cX6_howMany 13 = .ok (.iload_n 1, 1) := by decide +kernel
theorem dX6_howMany_14 : decode cX6_howMany 14 = .ok (.if_icmp .ne 6, 3) := by decide +kernel
theorem dX6_howMany_17 : decode cX6_howMany 17 = .ok (.iinc 2 1, 3) := by decide +kernel
theorem dX6_howMany_20 : decode cX6_howMany 20 = .ok (.iinc 3 1, 3) := by decide +kernel
theorem dX6_howMany_23 : decode cX6_howMany 23 = .ok (.goto (-19), 3) := by decide +kernel
theorem dX6_howMany_26 : decode cX6_howMany 26 = .ok (.iload_n 2, 1) := by decide +kernel
theorem dX6_howMany_27 : decode cX6_howMany 27 = .ok (.ireturn, 1) := by decide +kernel
set_option maxRecDepth 20000 in
theorem ggX6_stepAhead_X6_placeOf : GoodIn wsX6_stepAhead wsX6_placeOf := goodIn_r _ [11, 12, 13, 10, 14] (by decide +kernel) (by decide +kernel)
set_option maxRecDepth 20000 in
theorem gX6_stepAhead_X6_placeOf : GoodIn wsX6_stepAhead (va_wsS RX6 107 yX6_placeOf wsX6_placeOf) := goodIn_app (goodIn_of _ (by decide +kernel)) ggX6_stepAhead_X6_placeOf
set_option maxRecDepth 20000 in
theorem ggX6_stepAhead_X6_act : GoodIn wsX6_stepAhead wsX6_act := goodIn_r _ [18, 4, 5, 19, 20, 21, 22, 23, 24, 25, 26, 8, 9, 10, 11, 12, 13, 14, 27, 28, 29, 30, 31, 32, 33, 34, 35, 36, 37, 38, 39, 40, 41, 42, 43, 44, 45, 46, 47, 48, 49, 50, 51, 52, 53, 98, 99, 100, 101, 89, 90, 91, 92, 93, 94, 95, 96, 97, 102, 103, 104, 105, 106, 107, 108] (by decide +kernel) (by decide +kernel)
set_option maxRecDepth 20000 in
theorem gX6_stepAhead_X6_act : GoodIn wsX6_stepAhead (wsV RX6 248 RX6 yX6_act wsX6_act) := goodIn_app (goodIn_of _ (by decide +kernel)) ggX6_stepAhead_X6_act
set_option maxRecDepth 20000 in
theorem ggX6_stepAhead_X6_takeBackActs : GoodIn wsX6_stepAhead wsX6_takeBackActs := goodIn_r _ [57, 3, 58, 59, 60, 10, 61, 4, 19, 21, 5, 20, 25, 22, 23, 24, 26, 37, 38, 39, 30, 40, 36, 41, 42, 43, 44, 8, 9, 11, 12, 13, 14, 27, 28, 29, 31, 32, 33, 34, 35, 45, 46, 47, 48, 49, 50, 51, 52, 53, 89, 90, 91, 92, 93, 94, 95, 96, 97, 98, 99, 100, 101, 102, 103, 104, 105, 106, 107, 108] (by decide +kernel) (by decide +kernel)
set_option maxRecDepth 20000 in
theorem gX6_stepAhead_X6_takeBackActs : GoodIn wsX6_stepAhead (wsV RX6 252 RX6 yX6_takeBackActs wsX6_takeBackActs) := goodIn_app (goodIn_of _ (by decide +kernel)) ggX6_stepAhead_X6_takeBackActs
set_option maxRecDepth 20000 in
theorem ggX6_stepAhead_X2_tread : GoodIn wsX6_stepAhead wsX2_tread := goodIn_r _ [66, 67, 68, 69, 109, 110, 111, 112, 113, 114, 115] (by decide +kernel) (by decide +kernel)
set_option maxRecDepth 20000 in
theorem gX6_stepAhead_X2_tread : GoodIn wsX6_stepAhead (wsV RX6 256 RX2 yX2_tread wsX2_tread) := goodIn_app (goodIn_of _ (by decide +kernel)) ggX6_stepAhead_X2_tread
set_option maxRecDepth 20000 in
theorem ggX6_stepAhead_X6_noteMeetings : GoodIn wsX6_stepAhead wsX6_noteMeetings := goodIn_r _ [73, 1, 74, 6, 3, 4, 5, 75, 76, 77, 10, 78, 79, 80, 81, 82, 83, 84, 85, 86, 87, 88, 89, 90, 91, 92, 93, 94, 95, 96, 97, 98, 99, 100, 101, 116, 117, 118, 119, 120] (by decide +kernel) (by decide +kernel)
set_option maxRecDepth 20000 in
theorem gX6_stepAhead_X6_noteMeetings : GoodIn wsX6_stepAhead (wsV RX6 260 RX6 yX6_noteMeetings wsX6_noteMeetings) := goodIn_app (goodIn_of _ (by decide +kernel)) ggX6_stepAhead_X6_noteMeetings
theorem dX6_stepAhead_0 : decode cX6_stepAhead 0 = .ok (.iconst 0, 1) := by decide +kernel
theorem dX6_stepAhead_1 : decode cX6_stepAhead 1 = .ok (.istore_n 1, 1) := by decide +kernel
theorem dX6_stepAhead_2 : decode cX6_stepAhead 2 = .ok (.iload_n 1, 1) := by decide +kernel
theorem dX6_stepAhead_3 : decode cX6_stepAhead 3 = .ok (.aload_n 0, 1) := by decide +kernel
theorem dX6_stepAhead_4 : decode cX6_stepAhead 4 = .ok (.getfield 67, 3) := by decide +kernel
theorem dX6_stepAhead_7 : decode cX6_stepAhead 7 = .ok (.if_icmp .ge 56, 3) := by decide +kernel
theorem dX6_stepAhead_10 : decode cX6_stepAhead 10 = .ok (.aload_n 0, 1) := by decide +kernel
theorem dX6_stepAhead_11 : decode cX6_stepAhead 11 = .ok (.getfield 30, 3) := by decide +kernel
theorem dX6_stepAhead_14 : decode cX6_stepAhead 14 = .ok (.iload_n 1, 1) := by decide +kernel
theorem dX6_stepAhead_15 : decode cX6_stepAhead 15 = .ok (.aload_n 0, 1) := by decide +kernel
theorem dX6_stepAhead_16 : decode cX6_stepAhead 16 = .ok (.getfield 25, 3) := by decide +kernel
theorem dX6_stepAhead_19 : decode cX6_stepAhead 19 = .ok (.iload_n 1, 1) := by decide +kernel
theorem dX6_stepAhead_20 : decode cX6_stepAhead 20 = .ok (.aaload, 1) := by decide +kernel
theorem dX6_stepAhead_21 : decode cX6_stepAhead 21 = .ok (.getfield 114, 3) := by decide +kernel
theorem dX6_stepAhead_24 : decode cX6_stepAhead 24 = .ok (.aload_n 0, 1) := by decide +kernel
theorem dX6_stepAhead_25 : decode cX6_stepAhead 25 = .ok (.getfield 25, 3) := by decide +kernel
theorem dX6_stepAhead_28 : decode cX6_stepAhead 28 = .ok (.iload_n 1, 1) := by decide +kernel
theorem dX6_stepAhead_29 : decode cX6_stepAhead 29 = .ok (.aaload, 1) := by decide +kernel
theorem dX6_stepAhead_30 : decode cX6_stepAhead 30 = .ok (.getfield 117, 3) := by decide +kernel
theorem dX6_stepAhead_33 : decode cX6_stepAhead 33 = .ok (.invokestatic 107, 3) := by decide +kernel
theorem dX6_stepAhead_36 : decode cX6_stepAhead 36 = .ok (.iastore, 1) := by decide +kernel
theorem dX6_stepAhead_37 : decode cX6_stepAhead 37 = .ok (.aload_n 0, 1) := by decide +kernel
theorem dX6_stepAhead_38 : decode cX6_stepAhead 38 = .ok (.aload_n 0, 1) := by decide +kernel
theorem dX6_stepAhead_39 : decode cX6_stepAhead 39 = .ok (.getfield 25, 3) := by decide +kernel
theorem dX6_stepAhead_42 : decode cX6_stepAhead 42 = .ok (.iload_n 1, 1) := by decide +kernel
theorem dX6_stepAhead_43 : decode cX6_stepAhead 43 = .ok (.aaload, 1) := by decide +kernel
theorem dX6_stepAhead_44 : decode cX6_stepAhead 44 = .ok (.invokevirtual 248, 3) := by decide +kernel
theorem dX6_stepAhead_47 : decode cX6_stepAhead 47 = .ok (.ifCond .ne 10, 3) := by decide +kernel
theorem dX6_stepAhead_50 : decode cX6_stepAhead 50 = .ok (.aload_n 0, 1) := by decide +kernel
theorem dX6_stepAhead_51 : decode cX6_stepAhead 51 = .ok (.iload_n 1, 1) := by decide +kernel
theorem dX6_stepAhead_52 : decode cX6_stepAhead 52 = .ok (.invokevirtual 252, 3) := by decide +kernel
theorem dX6_stepAhead_55 : decode cX6_stepAhead 55 = .ok (.iconst 0, 1) := by decide +kernel
theorem dX6_stepAhead_56 : decode cX6_stepAhead 56 = .ok (.ireturn, 1) := by decide +kernel
theorem dX6_stepAhead_57 : decode cX6_stepAhead 57 = .ok (.iinc 1 1, 3) := by decide +kernel
theorem dX6_stepAhead_60 : decode cX6_stepAhead 60 = .ok (.goto (-58), 3) := by decide +kernel
theorem dX6_stepAhead_63 : decode cX6_stepAhead 63 = .ok (.aload_n 0, 1) := by decide +kernel
theorem dX6_stepAhead_64 : decode cX6_stepAhead 64 = .ok (.dup, 1) := by decide +kernel
theorem dX6_stepAhead_65 : decode cX6_stepAhead 65 = .ok (.getfield 76, 3) := by decide +kernel
theorem dX6_stepAhead_68 : decode cX6_stepAhead 68 = .ok (.iconst 1, 1) := by decide +kernel
theorem dX6_stepAhead_69 : decode cX6_stepAhead 69 = .ok (.iadd, 1) := by decide +kernel
theorem dX6_stepAhead_70 : decode cX6_stepAhead 70 = .ok (.putfield 76, 3) := by decide +kernel
theorem dX6_stepAhead_73 : decode cX6_stepAhead 73 = .ok (.aload_n 0, 1) := by decide +kernel
theorem dX6_stepAhead_74 : decode cX6_stepAhead 74 = .ok (.getfield 44, 3) := by decide +kernel
theorem dX6_stepAhead_77 : decode cX6_stepAhead 77 = .ok (.aload_n 0, 1) := by decide +kernel
theorem dX6_stepAhead_78 : decode cX6_stepAhead 78 = .ok (.getfield 30, 3) := by decide +kernel
theorem dX6_stepAhead_81 : decode cX6_stepAhead 81 = .ok (.aload_n 0, 1) := by decide +kernel
theorem dX6_stepAhead_82 : decode cX6_stepAhead 82 = .ok (.getfield 67, 3) := by decide +kernel
theorem dX6_stepAhead_85 : decode cX6_stepAhead 85 = .ok (.invokevirtual 256, 3) := by decide +kernel
theorem dX6_stepAhead_88 : decode cX6_stepAhead 88 = .ok (.aload_n 0, 1) := by decide +kernel
theorem dX6_stepAhead_89 : decode cX6_stepAhead 89 = .ok (.invokevirtual 260, 3) := by decide +kernel
theorem dX6_stepAhead_92 : decode cX6_stepAhead 92 = .ok (.iconst 1, 1) := by decide +kernel
theorem dX6_stepAhead_93 : decode cX6_stepAhead 93 = .ok (.ireturn, 1) := by decide +kernel
set_option maxRecDepth 20000 in
theorem ggX6_stepBack_X6_actBack : GoodIn wsX6_stepBack wsX6_actBack := goodIn_r _ [9, 10, 11, 12, 13, 14, 15, 16, 17, 18, 19, 20, 21, 22, 23, 24, 25, 26, 27, 28, 29, 30, 31, 8, 32, 33, 34, 35, 36, 37, 38, 39, 40, 41, 42, 43, 44, 45, 46, 47, 48, 49, 50, 51, 52, 76, 77, 78, 79, 67, 68, 69, 70, 71, 72, 73, 74, 75, 80, 81, 82, 83, 84, 85, 86] (by decide +kernel) (by decide +kernel)
set_option maxRecDepth 20000 in
theorem gX6_stepBack_X6_actBack : GoodIn wsX6_stepBack (wsV RX6 263 RX6 yX6_actBack wsX6_actBack) := goodIn_app (goodIn_of _ (by decide +kernel)) ggX6_stepBack_X6_actBack
set_option maxRecDepth 20000 in
theorem ggX6_stepBack_X6_redoActs : GoodIn wsX6_stepBack wsX6_redoActs := goodIn_r _ [56, 1, 2, 57, 58, 59, 8, 60, 10, 13, 11, 14, 12, 16, 17, 18, 15, 19, 30, 31, 32, 33, 34, 35, 36, 37, 38, 23, 39, 40, 41, 42, 43, 25, 20, 21, 22, 24, 26, 27, 28, 29, 44, 45, 46, 47, 48, 49, 50, 51, 52, 67, 68, 69, 70, 71, 72, 73, 74, 75, 76, 77, 78, 79, 80, 81, 82, 83, 84, 85, 86] (by decide +kernel) (by decide +kernel)
set_option maxRecDepth 20000 in
theorem gX6_stepBack_X6_redoActs : GoodIn wsX6_stepBack (wsV RX6 266 RX6 yX6_redoActs wsX6_redoActs) := goodIn_app (goodIn_of _ (by decide +kernel)) ggX6_stepBack_X6_redoActs
set_option maxRecDepth 20000 in
theorem ggX6_stepBack_X2_spoil : GoodIn wsX6_stepBack wsX2_spoil := goodIn_r _ [65, 66, 87, 88, 89, 90, 91, 92, 93] (by decide +kernel) (by decide +kernel)
set_option maxRecDepth 20000 in
theorem gX6_stepBack_X2_spoil : GoodIn wsX6_stepBack (wsV RX6 96 RX2 yX2_spoil wsX2_spoil) := goodIn_app (goodIn_of _ (by decide +kernel)) ggX6_stepBack_X2_spoil
theorem dX6_stepBack_0 : decode cX6_stepBack 0 = .ok (.aload_n 0, 1) := by decide +kernel
theorem dX6_stepBack_1 : decode cX6_stepBack 1 = .ok (.getfield 67, 3) := by decide +kernel
theorem dX6_stepBack_4 : decode cX6_stepBack 4 = .ok (.iconst 1, 1) := by decide +kernel
theorem dX6_stepBack_5 : decode cX6_stepBack 5 = .ok (.isub, 1) := by decide +kernel
theorem dX6_stepBack_6 : decode cX6_stepBack 6 = .ok (.istore_n 1, 1) := by decide +kernel
theorem dX6_stepBack_7 : decode cX6_stepBack 7 = .ok (.iload_n 1, 1) := by decide +kernel
theorem dX6_stepBack_8 : decode cX6_stepBack 8 = .ok (.ifCond .lt 31, 3) := by decide +kernel
theorem dX6_stepBack_11 : decode cX6_stepBack 11 = .ok (.aload_n 0, 1) := by decide +kernel
theorem dX6_stepBack_12 : decode cX6_stepBack 12 = .ok (.aload_n 0, 1) := by decide +kernel
theorem dX6_stepBack_13 : decode cX6_stepBack 13 = .ok (.getfield 25, 3) := by decide +kernel
theorem dX6_stepBack_16 : decode cX6_stepBack 16 = .ok (.iload_n 1, 1) := by decide +kernel
theorem dX6_stepBack_17 : decode cX6_stepBack 17 = .ok (.aaload, 1) := by decide +kernel
theorem dX6_stepBack_18 : decode cX6_stepBack 18 = .ok (.invokevirtual 263, 3) := by decide +kernel
theorem dX6_stepBack_21 : decode cX6_stepBack 21 = .ok (.ifCond .ne 12, 3) := by decide +kernel
theorem dX6_stepBack_24 : decode cX6_stepBack 24 = .ok (.aload_n 0, 1) := by decide +kernel
theorem dX6_stepBack_25 : decode cX6_stepBack 25 = .ok (.iload_n 1, 1) := by decide +kernel
theorem dX6_stepBack_26 : decode cX6_stepBack 26 = .ok (.iconst 1, 1) := by decide +kernel
theorem dX6_stepBack_27 : decode cX6_stepBack 27 = .ok (.iadd, 1) := by decide +kernel
theorem dX6_stepBack_28 : decode cX6_stepBack 28 = .ok (.invokevirtual 266, 3) := by decide +kernel
theorem dX6_stepBack_31 : decode cX6_stepBack 31 = .ok (.iconst 0, 1) := by decide +kernel
theorem dX6_stepBack_32 : decode cX6_stepBack 32 = .ok (.ireturn, 1) := by decide +kernel
theorem dX6_stepBack_33 : decode cX6_stepBack 33 = .ok (.iinc 1 (-1), 3) := by decide +kernel
theorem dX6_stepBack_36 : decode cX6_stepBack 36 = .ok (.goto (-29), 3) := by decide +kernel
theorem dX6_stepBack_39 : decode cX6_stepBack 39 = .ok (.aload_n 0, 1) := by decide +kernel
theorem dX6_stepBack_40 : decode cX6_stepBack 40 = .ok (.dup, 1) := by decide +kernel
theorem dX6_stepBack_41 : decode cX6_stepBack 41 = .ok (.getfield 76, 3) := by decide +kernel
theorem dX6_stepBack_44 : decode cX6_stepBack 44 = .ok (.iconst 1, 1) := by decide +kernel
theorem dX6_stepBack_45 : decode cX6_stepBack 45 = .ok (.isub, 1) := by decide +kernel
theorem dX6_stepBack_46 : decode cX6_stepBack 46 = .ok (.putfield 76, 3) := by decide +kernel
theorem dX6_stepBack_49 : decode cX6_stepBack 49 = .ok (.aload_n 0, 1) := by decide +kernel
theorem dX6_stepBack_50 : decode cX6_stepBack 50 = .ok (.getfield 44, 3) := by decide +kernel
theorem dX6_stepBack_53 : decode cX6_stepBack 53 = .ok (.invokevirtual 96, 3) := by decide +kernel
theorem dX6_stepBack_56 : decode cX6_stepBack 56 = .ok (.iconst 1, 1) := by decide +kernel
theorem dX6_stepBack_57 : decode cX6_stepBack 57 = .ok (.ireturn, 1) := by decide +kernel
set_option maxRecDepth 20000 in
theorem ggX6_takeBackActs_X6_actBack : GoodIn wsX6_takeBackActs wsX6_actBack := goodIn_r _ [6, 7, 8, 9, 10, 11, 12, 13, 14, 15, 16, 17, 18, 19, 20, 21, 22, 23, 24, 25, 26, 27, 28, 5, 29, 30, 31, 32, 33, 34, 35, 36, 37, 38, 39, 40, 41, 42, 43, 44, 45, 46, 47, 48, 49, 59, 60, 61, 62, 50, 51, 52, 53, 54, 55, 56, 57, 58, 63, 64, 65, 66, 67, 68, 69] (by decide +kernel) (by decide +kernel)
set_option maxRecDepth 20000 in
theorem gX6_takeBackActs_X6_actBack : GoodIn wsX6_takeBackActs (wsV RX6 263 RX6 yX6_actBack wsX6_actBack) := goodIn_app (goodIn_of _ (by decide +kernel)) ggX6_takeBackActs_X6_actBack
theorem dX6_takeBackActs_0 : decode cX6_takeBackActs 0 = .ok (.iload_n 1, 1) := by decide +kernel
theorem dX6_takeBackActs_1 : decode cX6_takeBackActs 1 = .ok (.iconst 1, 1) := by decide +kernel
theorem dX6_takeBackActs_2 : decode cX6_takeBackActs 2 = .ok (.isub, 1) := by decide +kernel
theorem dX6_takeBackActs_3 : decode cX6_takeBackActs 3 = .ok (.istore_n 2, 1) := by decide +kernel
theorem dX6_takeBackActs_4 : decode cX6_takeBackActs 4 = .ok (.iload_n 2, 1) := by decide +kernel
theorem dX6_takeBackActs_5 : decode cX6_takeBackActs 5 = .ok (.ifCond .lt 20, 3) := by decide +kernel
theorem dX6_takeBackActs_8 : decode cX6_takeBackActs 8 = .ok (.aload_n 0, 1) := by decide +kernel
theorem dX6_takeBackActs_9 : decode cX6_takeBackActs 9 = .ok (.aload_n 0, 1) := by decide +kernel
theorem dX6_takeBackActs_10 : decode cX6_takeBackActs 10 = .ok (.getfield 25, 3) := by decide +kernel
theorem dX6_takeBackActs_13 : decode cX6_takeBackActs 13 = .ok (.iload_n 2, 1) := by decide +kernel
theorem dX6_takeBackActs_14 : decode cX6_takeBackActs 14 = .ok (.aaload, 1) := by decide +kernel
theorem dX6_takeBackActs_15 : decode cX6_takeBackActs 15 = .ok (.invokevirtual 263, 3) := by decide +kernel
theorem dX6_takeBackActs_18 : decode cX6_takeBackActs 18 = .ok (.pop, 1) := by decide +kernel
theorem dX6_takeBackActs_19 : decode cX6_takeBackActs 19 = .ok (.iinc 2 (-1), 3) := by decide +kernel
theorem dX6_takeBackActs_22 : decode cX6_takeBackActs 22 = .ok (.goto (-18), 3) := by decide +kernel
theorem dX6_takeBackActs_25 : decode cX6_takeBackActs 25 = .ok (.return_, 1) := by decide +kernel
set_option maxRecDepth 20000 in
theorem ggX6_redoActs_X6_act : GoodIn wsX6_redoActs wsX6_act := goodIn_r _ [7, 8, 9, 10, 11, 12, 13, 14, 15, 16, 17, 18, 19, 6, 20, 21, 22, 23, 24, 25, 26, 27, 28, 29, 30, 31, 32, 33, 34, 35, 36, 37, 38, 39, 40, 41, 42, 43, 44, 45, 46, 47, 48, 49, 50, 60, 61, 62, 63, 51, 52, 53, 54, 55, 56, 57, 58, 59, 64, 65, 66, 67, 68, 69, 70] (by decide +kernel) (by decide +kernel)
set_option maxRecDepth 20000 in
theorem gX6_redoActs_X6_act : GoodIn wsX6_redoActs (wsV RX6 248 RX6 yX6_act wsX6_act) := goodIn_app (goodIn_of _ (by decide +kernel)) ggX6_redoActs_X6_act
theorem dX6_redoActs_0 : decode cX6_redoActs 0 = .ok (.iload_n 1, 1) := by decide +kernel
theorem dX6_redoActs_1 : decode cX6_redoActs 1 = .ok (.istore_n 2, 1) := by decide +kernel
theorem dX6_redoActs_2 : decode cX6_redoActs 2 = .ok (.iload_n 2, 1) := by decide +kernel
theorem dX6_redoActs_3 : decode cX6_redoActs 3 = .ok (.aload_n 0, 1) := by decide +kernel
theorem dX6_redoActs_4 : decode cX6_redoActs 4 = .ok (.getfield 67, 3) := by decide +kernel
theorem dX6_redoActs_7 : decode cX6_redoActs 7 = .ok (.if_icmp .ge 20, 3) := by decide +kernel
theorem dX6_redoActs_10 : decode cX6_redoActs 10 = .ok (.aload_n 0, 1) := by decide +kernel
theorem dX6_redoActs_11 : decode cX6_redoActs 11 = .ok (.aload_n 0, 1) := by decide +kernel
theorem dX6_redoActs_12 : decode cX6_redoActs 12 = .ok (.getfield 25, 3) := by decide +kernel
theorem dX6_redoActs_15 : decode cX6_redoActs 15 = .ok (.iload_n 2, 1) := by decide +kernel
theorem dX6_redoActs_16 : decode cX6_redoActs 16 = .ok (.aaload, 1) := by decide +kernel
theorem dX6_redoActs_17 : decode cX6_redoActs 17 = .ok (.invokevirtual 248, 3) := by decide +kernel
theorem dX6_redoActs_20 : decode cX6_redoActs 20 = .ok (.pop, 1) := by decide +kernel
theorem dX6_redoActs_21 : decode cX6_redoActs 21 = .ok (.iinc 2 1, 3) := by decide +kernel
theorem dX6_redoActs_24 : decode cX6_redoActs 24 = .ok (.goto (-22), 3) := by decide +kernel
theorem dX6_redoActs_27 : decode cX6_redoActs 27 = .ok (.return_, 1) := by decide +kernel
set_option maxRecDepth 20000 in
theorem ggX6_act_X6_placeOf : GoodIn wsX6_act wsX6_placeOf := goodIn_r _ [14, 15, 16, 13, 17] (by decide +kernel) (by decide +kernel)
set_option maxRecDepth 20000 in
theorem gX6_act_X6_placeOf : GoodIn wsX6_act (va_wsS RX6 107 yX6_placeOf wsX6_placeOf) := goodIn_app (goodIn_of _ (by decide +kernel)) ggX6_act_X6_placeOf
set_option maxRecDepth 20000 in
theorem ggX6_act_X1_turned : GoodIn wsX6_act wsX1_turned := goodIn_r _ [22, 23, 24, 25, 21, 26, 27, 58, 59, 60, 61] (by decide +kernel) (by decide +kernel)
set_option maxRecDepth 20000 in
theorem gX6_act_X1_turned : GoodIn wsX6_act (wsV RX6 273 RX1 yX1_turned wsX1_turned) := goodIn_app (goodIn_of _ (by decide +kernel)) ggX6_act_X1_turned
set_option maxRecDepth 20000 in
theorem ggX6_act_X1_stepX : GoodIn wsX6_act wsX1_stepX := goodIn_r _ [31, 27, 58, 59, 60, 61] (by decide +kernel) (by decide +kernel)
set_option maxRecDepth 20000 in
theorem gX6_act_X1_stepX : GoodIn wsX6_act (wsV RX6 276 RX1 yX1_stepX wsX1_stepX) := goodIn_app (goodIn_of _ (by decide +kernel)) ggX6_act_X1_stepX
set_option maxRecDepth 20000 in
theorem ggX6_act_X1_stepY : GoodIn wsX6_act wsX1_stepY := goodIn_r _ [35, 27, 58, 59, 60, 61] (by decide +kernel) (by decide +kernel)
set_option maxRecDepth 20000 in
theorem gX6_act_X1_stepY : GoodIn wsX6_act (wsV RX6 279 RX1 yX1_stepY wsX1_stepY) := goodIn_app (goodIn_of _ (by decide +kernel)) ggX6_act_X1_stepY
set_option maxRecDepth 20000 in
theorem ggX6_act_X6_isOn : GoodIn wsX6_act wsX6_isOn := goodIn_r _ [17] (by decide +kernel) (by decide +kernel)
set_option maxRecDepth 20000 in
theorem gX6_act_X6_isOn : GoodIn wsX6_act (va_wsS RX6 99 yX6_isOn wsX6_isOn) := goodIn_app (goodIn_of _ (by decide +kernel)) ggX6_act_X6_isOn
set_option maxRecDepth 20000 in
theorem ggX6_act_X0_put : GoodIn wsX6_act wsX0_put := goodIn_r _ [40, 41, 42, 43, 44, 45, 46, 47, 48] (by decide +kernel) (by decide +kernel)
set_option maxRecDepth 20000 in
theorem gX6_act_X0_put : GoodIn wsX6_act (wsV RX6 103 RX0 yX0_put wsX0_put) := goodIn_app (goodIn_of _ (by decide +kernel)) ggX6_act_X0_put
theorem dX6_act_0 : decode cX6_act 0 = .ok (.aload_n 1, 1) := by decide +kernel
theorem dX6_act_1 : decode cX6_act 1 = .ok (.getfield 114, 3) := by decide +kernel
theorem dX6_act_4 : decode cX6_act 4 = .ok (.aload_n 1, 1) := by decide +kernel
theorem dX6_act_5 : decode cX6_act 5 = .ok (.getfield 117, 3) := by decide +kernel
theorem dX6_act_8 : decode cX6_act 8 = .ok (.invokestatic 107, 3) := by decide +kernel
theorem dX6_act_11 : decode cX6_act 11 = .ok (.istore_n 2, 1) := by decide +kernel
theorem dX6_act_12 : decode cX6_act 12 = .ok (.iload_n 2, 1) := by decide +kernel
theorem dX6_act_13 : decode cX6_act 13 = .ok (.ifCond .ge 5, 3) := by decide +kernel
theorem dX6_act_16 : decode cX6_act 16 = .ok (.iconst 0, 1) := by decide +kernel
theorem dX6_act_17 : decode cX6_act 17 = .ok (.ireturn, 1) := by decide +kernel
theorem dX6_act_18 : decode cX6_act 18 = .ok (.aload_n 0, 1) := by decide +kernel
theorem dX6_act_19 : decode cX6_act 19 = .ok (.getfield 12, 3) := by decide +kernel
theorem dX6_act_22 : decode cX6_act 22 = .ok (.getfield 111, 3) := by decide +kernel
theorem dX6_act_25 : decode cX6_act 25 = .ok (.iload_n 2, 1) := by decide +kernel
theorem dX6_act_26 : decode cX6_act 26 = .ok (.iaload, 1) := by decide +kernel
theorem dX6_act_27 : decode cX6_act 27 = .ok (.istore_n 3, 1) := by decide +kernel
theorem dX6_act_28 : decode cX6_act 28 = .ok (.aload_n 0, 1) := by decide +kernel
theorem dX6_act_29 : decode cX6_act 29 = .ok (.getfield 12, 3) := by decide +kernel
theorem dX6_act_32 : decode cX6_act 32 = .ok (.aload_n 1, 1) := by decide +kernel
theorem dX6_act_33 : decode cX6_act 33 = .ok (.getfield 120, 3) := by decide +kernel
theorem dX6_act_36 : decode cX6_act 36 = .ok (.aload_n 0, 1) := by decide +kernel
theorem dX6_act_37 : decode cX6_act 37 = .ok (.getfield 19, 3) := by decide +kernel
theorem dX6_act_40 : decode cX6_act 40 = .ok (.getfield 269, 3) := by decide +kernel
theorem dX6_act_43 : decode cX6_act 43 = .ok (.aload_n 1, 1) := by decide +kernel
theorem dX6_act_44 : decode cX6_act 44 = .ok (.getfield 123, 3) := by decide +kernel
theorem dX6_act_47 : decode cX6_act 47 = .ok (.aaload, 1) := by decide +kernel
theorem dX6_act_48 : decode cX6_act 48 = .ok (.iload_n 3, 1) := by decide +kernel
theorem dX6_act_49 : decode cX6_act 49 = .ok (.iaload, 1) := by decide +kernel
theorem dX6_act_50 : decode cX6_act 50 = .ok (.invokevirtual 273, 3) := by decide +kernel
theorem dX6_act_53 : decode cX6_act 53 = .ok (.istore 4, 2) := by decide +kernel
theorem dX6_act_55 : decode cX6_act 55 = .ok (.aload_n 1, 1) := by decide +kernel
theorem dX6_act_56 : decode cX6_act 56 = .ok (.getfield 114, 3) := by decide +kernel
theorem dX6_act_59 : decode cX6_act 59 = .ok (.aload_n 0, 1) := by decide +kernel
theorem dX6_act_60 : decode cX6_act 60 = .ok (.getfield 12, 3) := by decide +kernel
theorem dX6_act_63 : decode cX6_act 63 = .ok (.iload 4, 2) := by decide +kernel
theorem dX6_act_65 : decode cX6_act 65 = .ok (.invokevirtual 276, 3) := by decide +kernel
theorem dX6_act_68 : decode cX6_act 68 = .ok (.iadd, 1) := by decide +kernel
theorem dX6_act_69 : decode cX6_act 69 = .ok (.istore 5, 2) := by decide +kernel
theorem dX6_act_71 : decode cX6_act 71 = .ok (.aload_n 1, 1) := by decide +kernel
theorem dX6_act_72 : decode cX6_act 72 = .ok (.getfield 117, 3) := by decide +kernel
theorem dX6_act_75 : decode cX6_act 75 = .ok (.aload_n 0, 1) := by decide +kernel
theorem dX6_act_76 : decode cX6_act 76 = .ok (.getfield 12, 3) := by decide +kernel
theorem dX6_act_79 : decode cX6_act 79 = .ok (.iload 4, 2) := by decide +kernel
theorem dX6_act_81 : decode cX6_act 81 = .ok (.invokevirtual 279, 3) := by decide +kernel
theorem dX6_act_84 : decode cX6_act 84 = .ok (.iadd, 1) := by decide +kernel
theorem dX6_act_85 : decode cX6_act 85 = .ok (.istore 6, 2) := by decide +kernel
theorem dX6_act_87 : decode cX6_act 87 = .ok (.iload 5, 2) := by decide +kernel
theorem dX6_act_89 : decode cX6_act 89 = .ok (.iload 6, 2) := by decide +kernel
theorem dX6_act_91 : decode cX6_act 91 = .ok (.invokestatic 99, 3) := by decide +kernel
theorem dX6_act_94 : decode cX6_act 94 = .ok (.ifCond .ne 5, 3) := by decide +kernel
theorem dX6_act_97 : decode cX6_act 97 = .ok (.iconst 0, 1) := by decide +kernel
theorem dX6_act_98 : decode cX6_act 98 = .ok (.ireturn, 1) := by decide +kernel
theorem dX6_act_99 : decode cX6_act 99 = .ok (.aload_n 0, 1) := by decide +kernel
theorem dX6_act_100 : decode cX6_act 100 = .ok (.getfield 12, 3) := by decide +kernel
theorem dX6_act_103 : decode cX6_act 103 = .ok (.getfield 111, 3) := by decide +kernel
theorem dX6_act_106 : decode cX6_act 106 = .ok (.iload_n 2, 1) := by decide +kernel
theorem dX6_act_107 : decode cX6_act 107 = .ok (.iload_n 3, 1) := by decide +kernel
theorem dX6_act_108 : decode cX6_act 108 = .ok (.iconst 1, 1) := by decide +kernel
theorem dX6_act_109 : decode cX6_act 109 = .ok (.iadd, 1) := by decide +kernel
theorem dX6_act_110 : decode cX6_act 110 = .ok (.aload_n 0, 1) := by decide +kernel
theorem dX6_act_111 : decode cX6_act 111 = .ok (.getfield 12, 3) := by decide +kernel
theorem dX6_act_114 : decode cX6_act 114 = .ok (.getfield 90, 3) := by decide +kernel
theorem dX6_act_117 : decode cX6_act 117 = .ok (.if_icmp .ge 9, 3) := by decide +kernel
theorem dX6_act_120 : decode cX6_act 120 = .ok (.iload_n 3, 1) := by decide +kernel
theorem dX6_act_121 : decode cX6_act 121 = .ok (.iconst 1, 1) := by decide +kernel
theorem dX6_act_122 : decode cX6_act 122 = .ok (.iadd, 1) := by decide +kernel
theorem dX6_act_123 : decode cX6_act 123 = .ok (.goto 4, 3) := by decide +kernel
theorem dX6_act_126 : decode cX6_act 126 = .ok (.iconst 0, 1) := by decide +kernel
theorem dX6_act_127 : decode cX6_act 127 = .ok (.iastore, 1) := by decide +kernel
theorem dX6_act_128 : decode cX6_act 128 = .ok (.aload_n 0, 1) := by decide +kernel
theorem dX6_act_129 : decode cX6_act 129 = .ok (.getfield 12, 3) := by decide +kernel
theorem dX6_act_132 : decode cX6_act 132 = .ok (.getfield 150, 3) := by decide +kernel
theorem dX6_act_135 : decode cX6_act 135 = .ok (.iload_n 2, 1) := by decide +kernel
theorem dX6_act_136 : decode cX6_act 136 = .ok (.dup2, 1) := by decide +kernel
theorem dX6_act_137 : decode cX6_act 137 = .ok (.iaload, 1) := by decide +kernel
theorem dX6_act_138 : decode cX6_act 138 = .ok (.iconst 1, 1) := by decide +kernel
theorem dX6_act_139 : decode cX6_act 139 = .ok (.iadd, 1) := by decide +kernel
theorem dX6_act_140 : decode cX6_act 140 = .ok (.iastore, 1) := by decide +kernel
theorem dX6_act_141 : decode cX6_act 141 = .ok (.aload_n 1, 1) := by decide +kernel
theorem dX6_act_142 : decode cX6_act 142 = .ok (.iload 5, 2) := by decide +kernel
theorem dX6_act_144 : decode cX6_act 144 = .ok (.iload 6, 2) := by decide +kernel
theorem dX6_act_146 : decode cX6_act 146 = .ok (.iload 4, 2) := by decide +kernel
theorem dX6_act_148 : decode cX6_act 148 = .ok (.aload_n 1, 1) := by decide +kernel
theorem dX6_act_149 : decode cX6_act 149 = .ok (.getfield 123, 3) := by decide +kernel
theorem dX6_act_152 : decode cX6_act 152 = .ok (.invokevirtual 103, 3) := by decide +kernel
theorem dX6_act_155 : decode cX6_act 155 = .ok (.iconst 1, 1) := by decide +kernel
theorem dX6_act_156 : decode cX6_act 156 = .ok (.ireturn, 1) := by decide +kernel
set_option maxRecDepth 20000 in
theorem ggX6_actBack_X1_stepX : GoodIn wsX6_actBack wsX1_stepX := goodIn_r _ [15, 16, 58, 59, 60, 61] (by decide +kernel) (by decide +kernel)
set_option maxRecDepth 20000 in
theorem gX6_actBack_X1_stepX : GoodIn wsX6_actBack (wsV RX6 276 RX1 yX1_stepX wsX1_stepX) := goodIn_app (goodIn_of _ (by decide +kernel)) ggX6_actBack_X1_stepX
set_option maxRecDepth 20000 in
theorem ggX6_actBack_X1_stepY : GoodIn wsX6_actBack wsX1_stepY := goodIn_r _ [20, 16, 58, 59, 60, 61] (by decide +kernel) (by decide +kernel)
set_option maxRecDepth 20000 in
theorem gX6_actBack_X1_stepY : GoodIn wsX6_actBack (wsV RX6 279 RX1 yX1_stepY wsX1_stepY) := goodIn_app (goodIn_of _ (by decide +kernel)) ggX6_actBack_X1_stepY
set_option maxRecDepth 20000 in
theorem ggX6_actBack_X6_placeOf : GoodIn wsX6_actBack wsX6_placeOf := goodIn_r _ [24, 25, 26, 23, 27] (by decide +kernel) (by decide +kernel)
set_option maxRecDepth 20000 in
theorem gX6_actBack_X6_placeOf : GoodIn wsX6_actBack (va_wsS RX6 107 yX6_placeOf wsX6_placeOf) := goodIn_app (goodIn_of _ (by decide +kernel)) ggX6_actBack_X6_placeOf
set_option maxRecDepth 20000 in
theorem ggX6_actBack_X1_turned : GoodIn wsX6_actBack wsX1_turned := goodIn_r _ [31, 32, 33, 34, 14, 35, 16, 58, 59, 60, 61] (by decide +kernel) (by decide +kernel)
set_option maxRecDepth 20000 in
theorem gX6_actBack_X1_turned : GoodIn wsX6_actBack (wsV RX6 273 RX1 yX1_turned wsX1_turned) := goodIn_app (goodIn_of _ (by decide +kernel)) ggX6_actBack_X1_turned
set_option maxRecDepth 20000 in
theorem ggX6_actBack_X0_put : GoodIn wsX6_actBack wsX0_put := goodIn_r _ [40, 41, 42, 43, 44, 45, 46, 47, 48] (by decide +kernel) (by decide +kernel)
set_option maxRecDepth 20000 in
theorem gX6_actBack_X0_put : GoodIn wsX6_actBack (wsV RX6 103 RX0 yX0_put wsX0_put) := goodIn_app (goodIn_of _ (by decide +kernel)) ggX6_actBack_X0_put
theorem dX6_actBack_0 : decode cX6_actBack 0 = .ok (.aload_n 1, 1) := by decide +kernel
theorem dX6_actBack_1 : decode cX6_actBack 1 = .ok (.getfield 114, 3) := by decide +kernel
theorem dX6_actBack_4 : decode cX6_actBack 4 = .ok (.aload_n 0, 1) := by decide +kernel
theorem dX6_actBack_5 : decode cX6_actBack 5 = .ok (.getfield 12, 3) := by decide +kernel
theorem dX6_actBack_8 : decode cX6_actBack 8 = .ok (.aload_n 1, 1) := by decide +kernel
theorem dX6_actBack_9 : decode cX6_actBack 9 = .ok (.getfield 120, 3) := by decide +kernel
theorem dX6_actBack_12 : decode cX6_actBack 12 = .ok (.invokevirtual 276, 3) := by decide +kernel
theorem dX6_actBack_15 : decode cX6_actBack 15 = .ok (.isub, 1) := by decide +kernel
theorem dX6_actBack_16 : decode cX6_actBack 16 = .ok (.istore_n 2, 1) := by decide +kernel
theorem dX6_actBack_17 : decode cX6_actBack 17 = .ok (.aload_n 1, 1) := by decide +kernel
theorem dX6_actBack_18 : decode cX6_actBack 18 = .ok (.getfield 117, 3) := by decide +kernel
theorem dX6_actBack_21 : decode cX6_actBack 21 = .ok (.aload_n 0, 1) := by decide +kernel
theorem dX6_actBack_22 : decode cX6_actBack 22 = .ok (.getfield 12, 3) := by decide +kernel
theorem dX6_actBack_25 : decode cX6_actBack 25 = .ok (.aload_n 1, 1) := by decide +kernel
theorem dX6_actBack_26 : decode cX6_actBack 26 = .ok (.getfield 120, 3) := by decide +kernel
theorem dX6_actBack_29 : decode cX6_actBack 29 = .ok (.invokevirtual 279, 3) := by decide +kernel
theorem dX6_actBack_32 : decode cX6_actBack 32 = .ok (.isub, 1) := by decide +kernel
theorem dX6_actBack_33 : decode cX6_actBack 33 = .ok (.istore_n 3, 1) := by decide +kernel
theorem dX6_actBack_34 : decode cX6_actBack 34 = .ok (.iload_n 2, 1) := by decide +kernel
theorem dX6_actBack_35 : decode cX6_actBack 35 = .ok (.iload_n 3, 1) := by decide +kernel
theorem dX6_actBack_36 : decode cX6_actBack 36 = .ok (.invokestatic 107, 3) := by decide +kernel
theorem dX6_actBack_39 : decode cX6_actBack 39 = .ok (.istore 4, 2) := by decide +kernel
theorem dX6_actBack_41 : decode cX6_actBack 41 = .ok (.iload 4, 2) := by decide +kernel
theorem dX6_actBack_43 : decode cX6_actBack 43 = .ok (.ifCond .ge 5, 3) := by decide +kernel
theorem dX6_actBack_46 : decode cX6_actBack 46 = .ok (.iconst 0, 1) := by decide +kernel
theorem dX6_actBack_47 : decode cX6_actBack 47 = .ok (.ireturn, 1) := by decide +kernel
theorem dX6_actBack_48 : decode cX6_actBack 48 = .ok (.aload_n 0, 1) := by decide +kernel
theorem dX6_actBack_49 : decode cX6_actBack 49 = .ok (.getfield 12, 3) := by decide +kernel
theorem dX6_actBack_52 : decode cX6_actBack 52 = .ok (.getfield 111, 3) := by decide +kernel
theorem dX6_actBack_55 : decode cX6_actBack 55 = .ok (.iload 4, 2) := by decide +kernel
theorem dX6_actBack_57 : decode cX6_actBack 57 = .ok (.iaload, 1) := by decide +kernel
theorem dX6_actBack_58 : decode cX6_actBack 58 = .ok (.ifCond .le 18, 3) := by decide +kernel
theorem dX6_actBack_61 : decode cX6_actBack 61 = .ok (.aload_n 0, 1) := by decide +kernel
theorem dX6_actBack_62 : decode cX6_actBack 62 = .ok (.getfield 12, 3) := by decide +kernel
theorem dX6_actBack_65 : decode cX6_actBack 65 = .ok (.getfield 111, 3) := by decide +kernel
theorem dX6_actBack_68 : decode cX6_actBack 68 = .ok (.iload 4, 2) := by decide +kernel
theorem dX6_actBack_70 : decode cX6_actBack 70 = .ok (.iaload, 1) := by decide +kernel
theorem dX6_actBack_71 : decode cX6_actBack 71 = .ok (.iconst 1, 1) := by decide +kernel
theorem dX6_actBack_72 : decode cX6_actBack 72 = .ok (.isub, 1) := by decide +kernel
theorem dX6_actBack_73 : decode cX6_actBack 73 = .ok (.goto 12, 3) := by decide +kernel
theorem dX6_actBack_76 : decode cX6_actBack 76 = .ok (.aload_n 0, 1) := by decide +kernel
theorem dX6_actBack_77 : decode cX6_actBack 77 = .ok (.getfield 12, 3) := by decide +kernel
theorem dX6_actBack_80 : decode cX6_actBack 80 = .ok (.getfield 90, 3) := by decide +kernel
theorem dX6_actBack_83 : decode cX6_actBack 83 = .ok (.iconst 1, 1) := by decide +kernel
theorem dX6_actBack_84 : decode cX6_actBack 84 = .ok (.isub, 1) := by decide +kernel
theorem dX6_actBack_85 : decode cX6_actBack 85 = .ok (.istore 5, 2) := by decide +kernel
theorem dX6_actBack_87 : decode cX6_actBack 87 = .ok (.aload_n 0, 1) := by decide +kernel
theorem dX6_actBack_88 : decode cX6_actBack 88 = .ok (.getfield 12, 3) := by decide +kernel
