theorem dX6_takeBackActs_1 : decode cX6_takeBackActs 1 = .ok (.iconst 1, 1) := by decide +kernel
theorem dX6_takeBackActs_2 : decode cX6_takeBackActs 2 = .ok (.isub, 1) := by decide +kernel
theorem dX6_takeBackActs_3 : decode cX6_takeBackActs 3 = .ok (.istore_n 2, 1) := by decide +kernel
theorem dX6_takeBackActs_4 : decode cX6_takeBackActs 4 = .ok (.iload_n 2, 1) := by decide +kernel
theorem dX6_takeBackActs_5 : decode cX6_takeBackActs 5 = .ok (.ifCond .lt 20, 3) := by decide +kernel
theorem dX6_takeBackActs_8 : decode cX6_takeBackActs 8 = .ok (.aload_n 0, 1) := by decide +kernel
theorem dX6_takeBackActs_9 : decode cX6_takeBackActs 9 = .ok (.aload_n 0, 1) := by decide +kernel
theorem dX6_takeBackActs_10 : decode cX6_takeBackActs 10 = .ok (.getfield 25, 3) := by decide +kernel
theorem dX6_takeBackActs_13 : decode cX6_takeBackActs 13 = .ok (.iload_n 2, 1) := by decide +kernel
theorem dX6_takeBackActs_14 : decode cX6_takeBackActs 14 = .ok (.aaload, 1) := by decide +kernel
theorem dX6_takeBackActs_15 : decode cX6_takeBackActs 15 = .ok (.invokevirtual 263, 3) := by decide +kernel
theorem dX6_takeBackActs_18 : decode cX6_takeBackActs 18 = .ok (.pop, 1) := by decide +kernel
theorem dX6_takeBackActs_19 : decode cX6_takeBackActs 19 = .ok (.iinc 2 (-1), 3) := by decide +kernel
theorem dX6_takeBackActs_22 : decode cX6_takeBackActs 22 = .ok (.goto (-18), 3) := by decide +kernel
theorem dX6_takeBackActs_25 : decode cX6_takeBackActs 25 = .ok (.return_, 1) := by decide +kernel
set_option maxRecDepth 20000 in
theorem ggX6_redoActs_X6_act : GoodIn wsX6_redoActs wsX6_act := goodIn_r _ [7, 8, 9, 10, 11, 12, 13, 14, 15, 16, 17, 18, 19, 6, 20, 21, 22, 23, 24, 25, 26, 27, 28, 29, 30, 31, 32, 33, 34, 35, 36, 37, 38, 39, 40, 41, 42, 43, 44, 45, 46, 47, 48, 49, 50, 60, 61, 62, 63, 51, 52, 53, 54, 55, 56, 57, 58, 59, 64, 65, 66, 67, 68, 69, 70] (by decide +kernel) (by decide +kernel)
set_option maxRecDepth 20000 in
theorem gX6_redoActs_X6_act : GoodIn wsX6_redoActs (wsV RX6 248 RX6 yX6_act wsX6_act) := goodIn_app (goodIn_of _ (by decide +kernel)) ggX6_redoActs_X6_act
theorem dX6_redoActs_0 : decode cX6_redoActs 0 = .ok (.iload_n 1, 1) := by decide +kernel
theorem dX6_redoActs_1 : decode cX6_redoActs 1 = .ok (.istore_n 2, 1) := by decide +kernel
theorem dX6_redoActs_2 : decode cX6_redoActs 2 = .ok (.iload_n 2, 1) := by decide +kernel
theorem dX6_redoActs_3 : decode cX6_redoActs 3 = .ok (.aload_n 0, 1) := by decide +kernel
theorem dX6_redoActs_4 : decode cX6_redoActs 4 = .ok (.getfield 67, 3) := by decide +kernel
theorem dX6_redoActs_7 : decode cX6_redoActs 7 = .ok (.if_icmp .ge 20, 3) := by decide +kernel
theorem dX6_redoActs_10 : decode cX6_redoActs 10 = .ok (.aload_n 0, 1) := by decide +kernel
theorem dX6_redoActs_11 : decode cX6_redoActs 11 = .ok (.aload_n 0, 1) := by decide +kernel
theorem dX6_redoActs_12 : decode cX6_redoActs 12 = .ok (.getfield 25, 3) := by decide +kernel
theorem dX6_redoActs_15 : decode cX6_redoActs 15 = .ok (.iload_n 2, 1) := by decide +kernel
theorem dX6_redoActs_16 : decode cX6_redoActs 16 = .ok (.aaload, 1) := by decide +kernel
theorem dX6_redoActs_17 : decode cX6_redoActs 17 = .ok (.invokevirtual 248, 3) := by decide +kernel
theorem dX6_redoActs_20 : decode cX6_redoActs 20 = .ok (.pop, 1) := by decide +kernel
theorem dX6_redoActs_21 : decode cX6_redoActs 21 = .ok (.iinc 2 1, 3) := by decide +kernel
theorem dX6_redoActs_24 : decode cX6_redoActs 24 = .ok (.goto (-22), 3) := by decide +kernel
theorem dX6_redoActs_27 : decode cX6_redoActs 27 = .ok (.return_, 1) := by decide +kernel
set_option maxRecDepth 20000 in
theorem ggX6_act_X6_placeOf : GoodIn wsX6_act wsX6_placeOf := goodIn_r _ [14, 15, 16, 13, 17] (by decide +kernel) (by decide +kernel)
set_option maxRecDepth 20000 in
theorem gX6_act_X6_placeOf : GoodIn wsX6_act (va_wsS RX6 107 yX6_placeOf wsX6_placeOf) := goodIn_app (goodIn_of _ (by decide +kernel)) ggX6_act_X6_placeOf
set_option maxRecDepth 20000 in
theorem ggX6_act_X1_turned : GoodIn wsX6_act wsX1_turned := goodIn_r _ [22, 23, 24, 25, 21, 26, 27, 58, 59, 60, 61] (by decide +kernel) (by decide +kernel)
set_option maxRecDepth 20000 in
theorem gX6_act_X1_turned : GoodIn wsX6_act (wsV RX6 273 RX1 yX1_turned wsX1_turned) := goodIn_app (goodIn_of _ (by decide +kernel)) ggX6_act_X1_turned
set_option maxRecDepth 20000 in
theorem ggX6_act_X1_stepX : GoodIn wsX6_act wsX1_stepX := goodIn_r _ [31, 27, 58, 59, 60, 61] (by decide +kernel) (by decide +kernel)
set_option maxRecDepth 20000 in
theorem gX6_act_X1_stepX : GoodIn wsX6_act (wsV RX6 276 RX1 yX1_stepX wsX1_stepX) := goodIn_app (goodIn_of _ (by decide +kernel)) ggX6_act_X1_stepX
set_option maxRecDepth 20000 in
theorem ggX6_act_X1_stepY : GoodIn wsX6_act wsX1_stepY := goodIn_r _ [35, 27, 58, 59, 60, 61] (by decide +kernel) (by decide +kernel)
set_option maxRecDepth 20000 in
theorem gX6_act_X1_stepY : GoodIn wsX6_act (wsV RX6 279 RX1 yX1_stepY wsX1_stepY) := goodIn_app (goodIn_of _ (by decide +kernel)) ggX6_act_X1_stepY
set_option maxRecDepth 20000 in
theorem ggX6_act_X6_isOn : GoodIn wsX6_act wsX6_isOn := goodIn_r _ [17] (by decide +kernel) (by decide +kernel)
set_option maxRecDepth 20000 in
theorem gX6_act_X6_isOn : GoodIn wsX6_act (va_wsS RX6 99 yX6_isOn wsX6_isOn) := goodIn_app (goodIn_of _ (by decide +kernel)) ggX6_act_X6_isOn
set_option maxRecDepth 20000 in
theorem ggX6_act_X0_put : GoodIn wsX6_act wsX0_put := goodIn_r _ [40, 41, 42, 43, 44, 45, 46, 47, 48] (by decide +kernel) (by decide +kernel)
set_option maxRecDepth 20000 in
theorem gX6_act_X0_put : GoodIn wsX6_act (wsV RX6 103 RX0 yX0_put wsX0_put) := goodIn_app (goodIn_of _ (by decide +kernel)) ggX6_act_X0_put
theorem dX6_act_0 : decode cX6_act 0 = .ok (.aload_n 1, 1) := by decide +kernel
theorem dX6_act_1 : decode cX6_act 1 = .ok (.getfield 114, 3) := by decide +kernel
theorem dX6_act_4 : decode cX6_act 4 = .ok (.aload_n 1, 1) := by decide +kernel
theorem dX6_act_5 : decode cX6_act 5 = .ok (.getfield 117, 3) := by decide +kernel
theorem dX6_act_8 : decode cX6_act 8 = .ok (.invokestatic 107, 3) := by decide +kernel
theorem dX6_act_11 : decode cX6_act 11 = .ok (.istore_n 2, 1) := by decide +kernel
theorem dX6_act_12 : decode cX6_act 12 = .ok (.iload_n 2, 1) := by decide +kernel
theorem dX6_act_13 : decode cX6_act 13 = .ok (.ifCond .ge 5, 3) := by decide +kernel
theorem dX6_act_16 : decode cX6_act 16 = .ok (.iconst 0, 1) := by decide +kernel
theorem dX6_act_17 : decode cX6_act 17 = .ok (.ireturn, 1) := by decide +kernel
theorem dX6_act_18 : decode cX6_act 18 = .ok (.aload_n 0, 1) := by decide +kernel
theorem dX6_act_19 : decode cX6_act 19 = .ok (.getfield 12, 3) := by decide +kernel
theorem dX6_act_22 : decode cX6_act 22 = .ok (.getfield 111, 3) := by decide +kernel
theorem dX6_act_25 : decode cX6_act 25 = .ok (.iload_n 2, 1) := by decide +kernel
theorem dX6_act_26 : decode cX6_act 26 = .ok (.iaload, 1) := by decide +kernel
theorem dX6_act_27 : decode cX6_act 27 = .ok (.istore_n 3, 1) := by decide +kernel
theorem dX6_act_28 : decode cX6_act 28 = .ok (.aload_n 0, 1) := by decide +kernel
theorem dX6_act_29 : decode cX6_act 29 = .ok (.getfield 12, 3) := by decide +kernel
theorem dX6_act_32 : decode cX6_act 32 = .ok (.aload_n 1, 1) := by decide +kernel
theorem dX6_act_33 : decode cX6_act 33 = .ok (.getfield 120, 3) := by decide +kernel
theorem dX6_act_36 : decode cX6_act 36 = .ok (.aload_n 0, 1) := by decide +kernel
theorem dX6_act_37 : decode cX6_act 37 = .ok (.getfield 19, 3) := by decide +kernel
theorem dX6_act_40 : decode cX6_act 40 = .ok (.getfield 269, 3) := by decide +kernel
theorem dX6_act_43 : decode cX6_act 43 = .ok (.aload_n 1, 1) := by decide +kernel
theorem dX6_act_44 : decode cX6_act 44 = .ok (.getfield 123, 3) := by decide +kernel
theorem dX6_act_47 : decode cX6_act 47 = .ok (.aaload, 1) := by decide +kernel
theorem dX6_act_48 : decode cX6_act 48 = .ok (.iload_n 3, 1) := by decide +kernel
theorem dX6_act_49 : decode cX6_act 49 = .ok (.iaload, 1) := by decide +kernel
theorem dX6_act_50 : decode cX6_act 50 = .ok (.invokevirtual 273, 3) := by decide +kernel
theorem dX6_act_53 : decode cX6_act 53 = .ok (.istore 4, 2) := by decide +kernel
theorem dX6_act_55 : decode cX6_act 55 = .ok (.aload_n 1, 1) := by decide +kernel
theorem dX6_act_56 : decode cX6_act 56 = .ok (.getfield 114, 3) := by decide +kernel
theorem dX6_act_59 : decode cX6_act 59 = .ok (.aload_n 0, 1) := by decide +kernel
theorem dX6_act_60 : decode cX6_act 60 = .ok (.getfield 12, 3) := by decide +kernel
theorem dX6_act_63 : decode cX6_act 63 = .ok (.iload 4, 2) := by decide +kernel
theorem dX6_act_65 : decode cX6_act 65 = .ok (.invokevirtual 276, 3) := by decide +kernel
theorem dX6_act_68 : decode cX6_act 68 = .ok (.iadd, 1) := by decide +kernel
theorem dX6_act_69 : decode cX6_act 69 = .ok (.istore 5, 2) := by decide +kernel
theorem dX6_act_71 : decode cX6_act 71 = .ok (.aload_n 1, 1) := by decide +kernel
theorem dX6_act_72 : decode cX6_act 72 = .ok (.getfield 117, 3) := by decide +kernel
theorem dX6_act_75 : decode cX6_act 75 = .ok (.aload_n 0, 1) := by decide +kernel
theorem dX6_act_76 : decode cX6_act 76 = .ok (.getfield 12, 3) := by decide +kernel
theorem dX6_act_79 : decode cX6_act 79 = .ok (.iload 4, 2) := by decide +kernel
theorem dX6_act_81 : decode cX6_act 81 = .ok (.invokevirtual 279, 3) := by decide +kernel
theorem dX6_act_84 : decode cX6_act 84 = .ok (.iadd, 1) := by decide +kernel
theorem dX6_act_85 : decode cX6_act 85 = .ok (.istore 6, 2) := by decide +kernel
theorem dX6_act_87 : decode cX6_act 87 = .ok (.iload 5, 2) := by decide +kernel
theorem dX6_act_89 : decode cX6_act 89 = .ok (.iload 6, 2) := by decide +kernel
theorem dX6_act_91 : decode cX6_act 91 = .ok (.invokestatic 99, 3) := by decide +kernel
theorem dX6_act_94 : decode cX6_act 94 = .ok (.ifCond .ne 5, 3) := by decide +kernel
theorem dX6_act_97 : decode cX6_act 97 = .ok (.iconst 0, 1) := by decide +kernel
theorem dX6_act_98 : decode cX6_act 98 = .ok (.ireturn, 1) := by decide +kernel
theorem dX6_act_99 : decode cX6_act 99 = .ok (.aload_n 0, 1) := by decide +kernel
theorem dX6_act_100 : decode cX6_act 100 = .ok (.getfield 12, 3) := by decide +kernel
theorem dX6_act_103 : decode cX6_act 103 = .ok (.getfield 111, 3) := by decide +kernel
theorem dX6_act_106 : decode cX6_act 106 = .ok (.iload_n 2, 1) := by decide +kernel
theorem dX6_act_107 : decode cX6_act 107 = .ok (.iload_n 3, 1) := by decide +kernel
theorem dX6_act_108 : decode cX6_act 108 = .ok (.iconst 1, 1) := by decide +kernel
theorem dX6_act_109 : decode cX6_act 109 = .ok (.iadd, 1) := by decide +kernel
theorem dX6_act_110 : decode cX6_act 110 = .ok (.aload_n 0, 1) := by decide +kernel
theorem dX6_act_111 : decode cX6_act 111 = .ok (.getfield 12, 3) := by decide +kernel
theorem dX6_act_114 : decode cX6_act 114 = .ok (.getfield 90, 3) := by decide +kernel
theorem dX6_act_117 : decode cX6_act 117 = .ok (.if_icmp .ge 9, 3) := by decide +kernel
theorem dX6_act_120 : decode cX6_act 120 = .ok (.iload_n 3, 1) := by decide +kernel
theorem dX6_act_121 : decode cX6_act 121 = .ok (.iconst 1, 1) := by decide +kernel
theorem dX6_act_122 : decode cX6_act 122 = .ok (.iadd, 1) := by decide +kernel
theorem dX6_act_123 : decode cX6_act 123 = .ok (.goto 4, 3) := by decide +kernel
theorem dX6_act_126 : decode cX6_act 126 = .ok (.iconst 0, 1) := by decide +kernel
theorem dX6_act_127 : decode cX6_act 127 = .ok (.iastore, 1) := by decide +kernel
theorem dX6_act_128 : decode cX6_act 128 = .ok (.aload_n 0, 1) := by decide +kernel
theorem dX6_act_129 : decode cX6_act 129 = .ok (.getfield 12, 3) := by decide +kernel
theorem dX6_act_132 : decode cX6_act 132 = .ok (.getfield 150, 3) := by decide +kernel
theorem dX6_act_135 : decode cX6_act 135 = .ok (.iload_n 2, 1) := by decide +kernel
theorem dX6_act_136 : decode cX6_act 136 = .ok (.dup2, 1) := by decide +kernel
theorem dX6_act_137 : decode cX6_act 137 = .ok (.iaload, 1) := by decide +kernel
theorem dX6_act_138 : decode cX6_act 138 = .ok (.iconst 1, 1) := by decide +kernel
theorem dX6_act_139 : decode cX6_act 139 = .ok (.iadd, 1) := by decide +kernel
theorem dX6_act_140 : decode cX6_act 140 = .ok (.iastore, 1) := by decide +kernel
theorem dX6_act_141 : decode cX6_act 141 = .ok (.aload_n 1, 1) := by decide +kernel
theorem dX6_act_142 : decode cX6_act 142 = .ok (.iload 5, 2) := by decide +kernel
theorem dX6_act_144 : decode cX6_act 144 = .ok (.iload 6, 2) := by decide +kernel
theorem dX6_act_146 : decode cX6_act 146 = .ok (.iload 4, 2) := by decide +kernel
theorem dX6_act_148 : decode cX6_act 148 = .ok (.aload_n 1, 1) := by decide +kernel
theorem dX6_act_149 : decode cX6_act 149 = .ok (.getfield 123, 3) := by decide +kernel
theorem dX6_act_152 : decode cX6_act 152 = .ok (.invokevirtual 103, 3) := by decide +kernel
theorem dX6_act_155 : decode cX6_act 155 = .ok (.iconst 1, 1) := by decide +kernel
theorem dX6_act_156 : decode cX6_act 156 = .ok (.ireturn, 1) := by decide +kernel
set_option maxRecDepth 20000 in
theorem ggX6_actBack_X1_stepX : GoodIn wsX6_actBack wsX1_stepX := goodIn_r _ [15, 16, 58, 59, 60, 61] (by decide +kernel) (by decide +kernel)
set_option maxRecDepth 20000 in
theorem gX6_actBack_X1_stepX : GoodIn wsX6_actBack (wsV RX6 276 RX1 yX1_stepX wsX1_stepX) := goodIn_app (goodIn_of _ (by decide +kernel)) ggX6_actBack_X1_stepX
set_option maxRecDepth 20000 in
theorem ggX6_actBack_X1_stepY : GoodIn wsX6_actBack wsX1_stepY := goodIn_r _ [20, 16, 58, 59, 60, 61] (by decide +kernel) (by decide +kernel)
set_option maxRecDepth 20000 in
theorem gX6_actBack_X1_stepY : GoodIn wsX6_actBack (wsV RX6 279 RX1 yX1_stepY wsX1_stepY) := goodIn_app (goodIn_of _ (by decide +kernel)) ggX6_actBack_X1_stepY
set_option maxRecDepth 20000 in
theorem ggX6_actBack_X6_placeOf : GoodIn wsX6_actBack wsX6_placeOf := goodIn_r _ [24, 25, 26, 23, 27] (by decide +kernel) (by decide +kernel)
set_option maxRecDepth 20000 in
theorem gX6_actBack_X6_placeOf : GoodIn wsX6_actBack (va_wsS RX6 107 yX6_placeOf wsX6_placeOf) := goodIn_app (goodIn_of _ (by decide +kernel)) ggX6_actBack_X6_placeOf
set_option maxRecDepth 20000 in
theorem ggX6_actBack_X1_turned : GoodIn wsX6_actBack wsX1_turned := goodIn_r _ [31, 32, 33, 34, 14, 35, 16, 58, 59, 60, 61] (by decide +kernel) (by decide +kernel)
set_option maxRecDepth 20000 in
theorem gX6_actBack_X1_turned : GoodIn wsX6_actBack (wsV RX6 273 RX1 yX1_turned wsX1_turned) := goodIn_app (goodIn_of _ (by decide +kernel)) ggX6_actBack_X1_turned
set_option maxRecDepth 20000 in
theorem ggX6_actBack_X0_put : GoodIn wsX6_actBack wsX0_put := goodIn_r _ [40, 41, 42, 43, 44, 45, 46, 47, 48] (by decide +kernel) (by decide +kernel)
set_option maxRecDepth 20000 in
theorem gX6_actBack_X0_put : GoodIn wsX6_actBack (wsV RX6 103 RX0 yX0_put wsX0_put) := goodIn_app (goodIn_of _ (by decide +kernel)) ggX6_actBack_X0_put
theorem dX6_actBack_0 : decode cX6_actBack 0 = .ok (.aload_n 1, 1) := by decide +kernel
theorem dX6_actBack_1 : decode cX6_actBack 1 = .ok (.getfield 114, 3) := by decide +kernel
theorem dX6_actBack_4 : decode cX6_actBack 4 = .ok (.aload_n 0, 1) := by decide +kernel
theorem dX6_actBack_5 : decode cX6_actBack 5 = .ok (.getfield 12, 3) := by decide +kernel
theorem dX6_actBack_8 : decode cX6_actBack 8 = .ok (.aload_n 1, 1) := by decide +kernel
theorem dX6_actBack_9 : decode cX6_actBack 9 = .ok (.getfield 120, 3) := by decide +kernel
theorem dX6_actBack_12 : decode cX6_actBack 12 = .ok (.invokevirtual 276, 3) := by decide +kernel
theorem dX6_actBack_15 : decode cX6_actBack 15 = .ok (.isub, 1) := by decide +kernel
theorem dX6_actBack_16 : decode cX6_actBack 16 = .ok (.istore_n 2, 1) := by decide +kernel
theorem dX6_actBack_17 : decode cX6_actBack 17 = .ok (.aload_n 1, 1) := by decide +kernel
theorem dX6_actBack_18 : decode cX6_actBack 18 = .ok (.getfield 117, 3) := by decide +kernel
theorem dX6_actBack_21 : decode cX6_actBack 21 = .ok (.aload_n 0, 1) := by decide +kernel
theorem dX6_actBack_22 : decode cX6_actBack 22 = .ok (.getfield 12, 3) := by decide +kernel
theorem dX6_actBack_25 : decode cX6_actBack 25 = .ok (.aload_n 1, 1) := by decide +kernel
theorem dX6_actBack_26 : decode cX6_actBack 26 = .ok (.getfield 120, 3) := by decide +kernel
theorem dX6_actBack_29 : decode cX6_actBack 29 = .ok (.invokevirtual 279, 3) := by decide +kernel
theorem dX6_actBack_32 : decode cX6_actBack 32 = .ok (.isub, 1) := by decide +kernel
theorem dX6_actBack_33 : decode cX6_actBack 33 = .ok (.istore_n 3, 1) := by decide +kernel
theorem dX6_actBack_34 : decode cX6_actBack 34 = .ok (.iload_n 2, 1) := by decide +kernel
theorem dX6_actBack_35 : decode cX6_actBack 35 = .ok (.iload_n 3, 1) := by decide +kernel
theorem dX6_actBack_36 : decode cX6_actBack 36 = .ok (.invokestatic 107, 3) := by decide +kernel
theorem dX6_actBack_39 : decode cX6_actBack 39 = .ok (.istore 4, 2) := by decide +kernel
theorem dX6_actBack_41 : decode cX6_actBack 41 = .ok (.iload 4, 2) := by decide +kernel
theorem dX6_actBack_43 : decode cX6_actBack 43 = .ok (.ifCond .ge 5, 3) := by decide +kernel
theorem dX6_actBack_46 : decode cX6_actBack 46 = .ok (.iconst 0, 1) := by decide +kernel
theorem dX6_actBack_47 : decode cX6_actBack 47 = .ok (.ireturn, 1) := by decide +kernel
theorem dX6_actBack_48 : decode cX6_actBack 48 = .ok (.aload_n 0, 1) := by decide +kernel
theorem dX6_actBack_49 : decode cX6_actBack 49 = .ok (.getfield 12, 3) := by decide +kernel
theorem dX6_actBack_52 : decode cX6_actBack 52 = .ok (.getfield 111, 3) := by decide +kernel
theorem dX6_actBack_55 : decode cX6_actBack 55 = .ok (.iload 4, 2) := by decide +kernel
theorem dX6_actBack_57 : decode cX6_actBack 57 = .ok (.iaload, 1) := by decide +kernel
theorem dX6_actBack_58 : decode cX6_actBack 58 = .ok (.ifCond .le 18, 3) := by decide +kernel
theorem dX6_actBack_61 : decode cX6_actBack 61 = .ok (.aload_n 0, 1) := by decide +kernel
theorem dX6_actBack_62 : decode cX6_actBack 62 = .ok (.getfield 12, 3) := by decide +kernel
theorem dX6_actBack_65 : decode cX6_actBack 65 = .ok (.getfield 111, 3) := by decide +kernel
theorem dX6_actBack_68 : decode cX6_actBack 68 = .ok (.iload 4, 2) := by decide +kernel
theorem dX6_actBack_70 : decode cX6_actBack 70 = .ok (.iaload, 1) := by decide +kernel
theorem dX6_actBack_71 : decode cX6_actBack 71 = .ok (.iconst 1, 1) := by decide +kernel
theorem dX6_actBack_72 : decode cX6_actBack 72 = .ok (.isub, 1) := by decide +kernel
theorem dX6_actBack_73 : decode cX6_actBack 73 = .ok (.goto 12, 3) := by decide +kernel
theorem dX6_actBack_76 : decode cX6_actBack 76 = .ok (.aload_n 0, 1) := by decide +kernel
theorem dX6_actBack_77 : decode cX6_actBack 77 = .ok (.getfield 12, 3) := by decide +kernel
theorem dX6_actBack_80 : decode cX6_actBack 80 = .ok (.getfield 90, 3) := by decide +kernel
theorem dX6_actBack_83 : decode cX6_actBack 83 = .ok (.iconst 1, 1) := by decide +kernel
theorem dX6_actBack_84 : decode cX6_actBack 84 = .ok (.isub, 1) := by decide +kernel
theorem dX6_actBack_85 : decode cX6_actBack 85 = .ok (.istore 5, 2) := by decide +kernel
theorem dX6_actBack_87 : decode cX6_actBack 87 = .ok (.aload_n 0, 1) := by decide +kernel
theorem dX6_actBack_88 : decode cX6_actBack 88 = .ok (.getfield 12, 3) := by decide +kernel
theorem dX6_actBack_91 : decode cX6_actBack 91 = .ok (.aload_n 1, 1) := by decide +kernel
theorem dX6_actBack_92 : decode cX6_actBack 92 = .ok (.getfield 120, 3) := by decide +kernel
theorem dX6_actBack_95 : decode cX6_actBack 95 = .ok (.aload_n 0, 1) := by decide +kernel
theorem dX6_actBack_96 : decode cX6_actBack 96 = .ok (.getfield 19, 3) := by decide +kernel
theorem dX6_actBack_99 : decode cX6_actBack 99 = .ok (.getfield 269, 3) := by decide +kernel
theorem dX6_actBack_102 : decode cX6_actBack 102 = .ok (.aload_n 1, 1) := by decide +kernel
theorem dX6_actBack_103 : decode cX6_actBack 103 = .ok (.getfield 123, 3) := by decide +kernel
theorem dX6_actBack_106 : decode cX6_actBack 106 = .ok (.aaload, 1) := by decide +kernel
theorem dX6_actBack_107 : decode cX6_actBack 107 = .ok (.iload 5, 2) := by decide +kernel
theorem dX6_actBack_109 : decode cX6_actBack 109 = .ok (.iaload, 1) := by decide +kernel
theorem dX6_actBack_110 : decode cX6_actBack 110 = .ok (.ineg, 1) := by decide +kernel
theorem dX6_actBack_111 : decode cX6_actBack 111 = .ok (.invokevirtual 273, 3) := by decide +kernel
theorem dX6_actBack_114 : decode cX6_actBack 114 = .ok (.istore 6, 2) := by decide +kernel
theorem dX6_actBack_116 : decode cX6_actBack 116 = .ok (.aload_n 0, 1) := by decide +kernel
theorem dX6_actBack_117 : decode cX6_actBack 117 = .ok (.getfield 12, 3) := by decide +kernel
theorem dX6_actBack_120 : decode cX6_actBack 120 = .ok (.getfield 111, 3) := by decide +kernel
theorem dX6_actBack_123 : decode cX6_actBack 123 = .ok (.iload 4, 2) := by decide +kernel
theorem dX6_actBack_125 : decode cX6_actBack 125 = .ok (.iload 5, 2) := by decide +kernel
theorem dX6_actBack_127 : decode cX6_actBack 127 = .ok (.iastore, 1) := by decide +kernel
theorem dX6_actBack_128 : decode cX6_actBack 128 = .ok (.aload_n 0, 1) := by decide +kernel
theorem dX6_actBack_129 : decode cX6_actBack 129 = .ok (.getfield 12, 3) := by decide +kernel
theorem dX6_actBack_132 : decode cX6_actBack 132 = .ok (.getfield 150, 3) := by decide +kernel
theorem dX6_actBack_135 : decode cX6_actBack 135 = .ok (.iload 4, 2) := by decide +kernel
theorem dX6_actBack_137 : decode cX6_actBack 137 = .ok (.dup2, 1) := by decide +kernel
theorem dX6_actBack_138 : decode cX6_actBack 138 = .ok (.iaload, 1) := by decide +kernel
theorem dX6_actBack_139 : decode cX6_actBack 139 = .ok (.iconst 1, 1) := by decide +kernel
theorem dX6_actBack_140 : decode cX6_actBack 140 = .ok (.isub, 1) := by decide +kernel
theorem dX6_actBack_141 : decode cX6_actBack 141 = .ok (.iastore, 1) := by decide +kernel
theorem dX6_actBack_142 : decode cX6_actBack 142 = .ok (.aload_n 1, 1) := by decide +kernel
theorem dX6_actBack_143 : decode cX6_actBack 143 = .ok (.iload_n 2, 1) := by decide +kernel
theorem dX6_actBack_144 : decode cX6_actBack 144 = .ok (.iload_n 3, 1) := by decide +kernel
theorem dX6_actBack_145 : decode cX6_actBack 145 = .ok (.iload 6, 2) := by decide +kernel
theorem dX6_actBack_147 : decode cX6_actBack 147 = .ok (.aload_n 1, 1) := by decide +kernel
theorem dX6_actBack_148 : decode cX6_actBack 148 = .ok (.getfield 123, 3) := by decide +kernel
theorem dX6_actBack_151 : decode cX6_actBack 151 = .ok (.invokevirtual 103, 3) := by decide +kernel
theorem dX6_actBack_154 : decode cX6_actBack 154 = .ok (.iconst 1, 1) := by decide +kernel
theorem dX6_actBack_155 : decode cX6_actBack 155 = .ok (.ireturn, 1) := by decide +kernel
set_option maxRecDepth 20000 in
theorem ggX6_noteMeetings_X6_antsWith : GoodIn wsX6_noteMeetings wsX6_antsWith := goodIn_r _ [11, 1, 4, 5, 6, 22, 23, 24, 25, 26, 27, 28, 29, 30, 31, 32, 33, 34] (by decide +kernel) (by decide +kernel)
set_option maxRecDepth 20000 in
theorem gX6_noteMeetings_X6_antsWith : GoodIn wsX6_noteMeetings (wsV RX6 282 RX6 yX6_antsWith wsX6_antsWith) := goodIn_app (goodIn_of _ (by decide +kernel)) ggX6_noteMeetings_X6_antsWith
set_option maxRecDepth 20000 in
theorem ggX6_noteMeetings_X3_keep : GoodIn wsX6_noteMeetings wsX3_keep := goodIn_r _ [16, 17, 18, 19, 20, 21, 35, 36, 37, 38, 39] (by decide +kernel) (by decide +kernel)
set_option maxRecDepth 20000 in
theorem gX6_noteMeetings_X3_keep : GoodIn wsX6_noteMeetings (wsV RX6 285 RX3 yX3_keep wsX3_keep) := goodIn_app (goodIn_of _ (by decide +kernel)) ggX6_noteMeetings_X3_keep
theorem dX6_noteMeetings_0 : decode cX6_noteMeetings 0 = .ok (.iconst 0, 1) := by decide +kernel
theorem dX6_noteMeetings_1 : decode cX6_noteMeetings 1 = .ok (.istore_n 1, 1) := by decide +kernel
theorem dX6_noteMeetings_2 : decode cX6_noteMeetings 2 = .ok (.iconst 0, 1) := by decide +kernel
theorem dX6_noteMeetings_3 : decode cX6_noteMeetings 3 = .ok (.istore_n 2, 1) := by decide +kernel
theorem dX6_noteMeetings_4 : decode cX6_noteMeetings 4 = .ok (.iload_n 2, 1) := by decide +kernel
theorem dX6_noteMeetings_5 : decode cX6_noteMeetings 5 = .ok (.aload_n 0, 1) := by decide +kernel
theorem dX6_noteMeetings_6 : decode cX6_noteMeetings 6 = .ok (.getfield 67, 3) := by decide +kernel
theorem dX6_noteMeetings_9 : decode cX6_noteMeetings 9 = .ok (.if_icmp .ge 64, 3) := by decide +kernel
theorem dX6_noteMeetings_12 : decode cX6_noteMeetings 12 = .ok (.aload_n 0, 1) := by decide +kernel
theorem dX6_noteMeetings_13 : decode cX6_noteMeetings 13 = .ok (.iload_n 2, 1) := by decide +kernel
theorem dX6_noteMeetings_14 : decode cX6_noteMeetings 14 = .ok (.invokevirtual 282, 3) := by decide +kernel
theorem dX6_noteMeetings_17 : decode cX6_noteMeetings 17 = .ok (.istore_n 3, 1) := by decide +kernel
theorem dX6_noteMeetings_18 : decode cX6_noteMeetings 18 = .ok (.iload_n 1, 1) := by decide +kernel
theorem dX6_noteMeetings_19 : decode cX6_noteMeetings 19 = .ok (.iconst 1, 1) := by decide +kernel
theorem dX6_noteMeetings_20 : decode cX6_noteMeetings 20 = .ok (.iload_n 2, 1) := by decide +kernel
theorem dX6_noteMeetings_21 : decode cX6_noteMeetings 21 = .ok (.ishl, 1) := by decide +kernel
theorem dX6_noteMeetings_22 : decode cX6_noteMeetings 22 = .ok (.iand, 1) := by decide +kernel
theorem dX6_noteMeetings_23 : decode cX6_noteMeetings 23 = .ok (.ifCond .ne 44, 3) := by decide +kernel
theorem dX6_noteMeetings_26 : decode cX6_noteMeetings 26 = .ok (.iload_n 3, 1) := by decide +kernel
theorem dX6_noteMeetings_27 : decode cX6_noteMeetings 27 = .ok (.iconst 1, 1) := by decide +kernel
theorem dX6_noteMeetings_28 : decode cX6_noteMeetings 28 = .ok (.iload_n 2, 1) := by decide +kernel
theorem dX6_noteMeetings_29 : decode cX6_noteMeetings 29 = .ok (.ishl, 1) := by decide +kernel
theorem dX6_noteMeetings_30 : decode cX6_noteMeetings 30 = .ok (.if_icmp .eq 37, 3) := by decide +kernel
theorem dX6_noteMeetings_33 : decode cX6_noteMeetings 33 = .ok (.aload_n 0, 1) := by decide +kernel
theorem dX6_noteMeetings_34 : decode cX6_noteMeetings 34 = .ok (.getfield 37, 3) := by decide +kernel
theorem dX6_noteMeetings_37 : decode cX6_noteMeetings 37 = .ok (.aload_n 0, 1) := by decide +kernel
theorem dX6_noteMeetings_38 : decode cX6_noteMeetings 38 = .ok (.getfield 76, 3) := by decide +kernel
theorem dX6_noteMeetings_41 : decode cX6_noteMeetings 41 = .ok (.aload_n 0, 1) := by decide +kernel
theorem dX6_noteMeetings_42 : decode cX6_noteMeetings 42 = .ok (.getfield 25, 3) := by decide +kernel
theorem dX6_noteMeetings_45 : decode cX6_noteMeetings 45 = .ok (.iload_n 2, 1) := by decide +kernel
theorem dX6_noteMeetings_46 : decode cX6_noteMeetings 46 = .ok (.aaload, 1) := by decide +kernel
theorem dX6_noteMeetings_47 : decode cX6_noteMeetings 47 = .ok (.getfield 114, 3) := by decide +kernel
theorem dX6_noteMeetings_50 : decode cX6_noteMeetings 50 = .ok (.aload_n 0, 1) := by decide +kernel
theorem dX6_noteMeetings_51 : decode cX6_noteMeetings 51 = .ok (.getfield 25, 3) := by decide +kernel
theorem dX6_noteMeetings_54 : decode cX6_noteMeetings 54 = .ok (.iload_n 2, 1) := by decide +kernel
theorem dX6_noteMeetings_55 : decode cX6_noteMeetings 55 = .ok (.aaload, 1) := by decide +kernel
theorem dX6_noteMeetings_56 : decode cX6_noteMeetings 56 = .ok (.getfield 117, 3) := by decide +kernel
theorem dX6_noteMeetings_59 : decode cX6_noteMeetings 59 = .ok (.iload_n 3, 1) := by decide +kernel
theorem dX6_noteMeetings_60 : decode cX6_noteMeetings 60 = .ok (.invokevirtual 285, 3) := by decide +kernel
theorem dX6_noteMeetings_63 : decode cX6_noteMeetings 63 = .ok (.iload_n 1, 1) := by decide +kernel
theorem dX6_noteMeetings_64 : decode cX6_noteMeetings 64 = .ok (.iload_n 3, 1) := by decide +kernel
theorem dX6_noteMeetings_65 : decode cX6_noteMeetings 65 = .ok (.ior, 1) := by decide +kernel
theorem dX6_noteMeetings_66 : decode cX6_noteMeetings 66 = .ok (.istore_n 1, 1) := by decide +kernel
theorem dX6_noteMeetings_67 : decode cX6_noteMeetings 67 = .ok (.iinc 2 1, 3) := by decide +kernel
theorem dX6_noteMeetings_70 : decode cX6_noteMeetings 70 = .ok (.goto (-66), 3) := by decide +kernel
theorem dX6_noteMeetings_73 : decode cX6_noteMeetings 73 = .ok (.return_, 1) := by decide +kernel
theorem dX6_antsWith_0 : decode cX6_antsWith 0 = .ok (.iconst 0, 1) := by decide +kernel
theorem dX6_antsWith_1 : decode cX6_antsWith 1 = .ok (.istore_n 2, 1) := by decide +kernel
theorem dX6_antsWith_2 : decode cX6_antsWith 2 = .ok (.iconst 0, 1) := by decide +kernel
theorem dX6_antsWith_3 : decode cX6_antsWith 3 = .ok (.istore_n 3, 1) := by decide +kernel
theorem dX6_antsWith_4 : decode cX6_antsWith 4 = .ok (.iload_n 3, 1) := by decide +kernel
theorem dX6_antsWith_5 : decode cX6_antsWith 5 = .ok (.aload_n 0, 1) := by decide +kernel
theorem dX6_antsWith_6 : decode cX6_antsWith 6 = .ok (.getfield 67, 3) := by decide +kernel
theorem dX6_antsWith_9 : decode cX6_antsWith 9 = .ok (.if_icmp .ge 57, 3) := by decide +kernel
theorem dX6_antsWith_12 : decode cX6_antsWith 12 = .ok (.aload_n 0, 1) := by decide +kernel
theorem dX6_antsWith_13 : decode cX6_antsWith 13 = .ok (.getfield 25, 3) := by decide +kernel
theorem dX6_antsWith_16 : decode cX6_antsWith 16 = .ok (.iload_n 3, 1) := by decide +kernel
theorem dX6_antsWith_17 : decode cX6_antsWith 17 = .ok (.aaload, 1) := by decide +kernel
theorem dX6_antsWith_18 : decode cX6_antsWith 18 = .ok (.getfield 114, 3) := by decide +kernel
theorem dX6_antsWith_21 : decode cX6_antsWith 21 = .ok (.aload_n 0, 1) := by decide +kernel
theorem dX6_antsWith_22 : decode cX6_antsWith 22 = .ok (.getfield 25, 3) := by decide +kernel
theorem dX6_antsWith_25 : decode cX6_antsWith 25 = .ok (.iload_n 1, 1) := by decide +kernel
theorem dX6_antsWith_26 : decode cX6_antsWith 26 = .ok (.aaload, 1) := by decide +kernel
theorem dX6_antsWith_27 : decode cX6_antsWith 27 = .ok (.getfield 114, 3) := by decide +kernel
theorem dX6_antsWith_30 : decode cX6_antsWith 30 = .ok (.if_icmp .ne 30, 3) := by decide +kernel
theorem dX6_antsWith_33 : decode cX6_antsWith 33 = .ok (.aload_n 0, 1) := by decide +kernel
theorem dX6_antsWith_34 : decode cX6_antsWith 34 = .ok (.getfield 25, 3) := by decide +kernel
theorem dX6_antsWith_37 : decode cX6_antsWith 37 = .ok (.iload_n 3, 1) := by decide +kernel
theorem dX6_antsWith_38 : decode cX6_antsWith 38 = .ok (.aaload, 1) := by decide +kernel
theorem dX6_antsWith_39 : decode cX6_antsWith 39 = .ok (.getfield 117, 3) := by decide +kernel
theorem dX6_antsWith_42 : decode cX6_antsWith 42 = .ok (.aload_n 0, 1) := by decide +kernel
theorem dX6_antsWith_43 : decode cX6_antsWith 43 = .ok (.getfield 25, 3) := by decide +kernel
theorem dX6_antsWith_46 : decode cX6_antsWith 46 = .ok (.iload_n 1, 1) := by decide +kernel
theorem dX6_antsWith_47 : decode cX6_antsWith 47 = .ok (.aaload, 1) := by decide +kernel
theorem dX6_antsWith_48 : decode cX6_antsWith 48 = .ok (.getfield 117, 3) := by decide +kernel
theorem dX6_antsWith_51 : decode cX6_antsWith 51 = .ok (.if_icmp .ne 9, 3) := by decide +kernel
theorem dX6_antsWith_54 : decode cX6_antsWith 54 = .ok (.iload_n 2, 1) := by decide +kernel
theorem dX6_antsWith_55 : decode cX6_antsWith 55 = .ok (.iconst 1, 1) := by decide +kernel
theorem dX6_antsWith_56 : decode cX6_antsWith 56 = .ok (.iload_n 3, 1) := by decide +kernel
theorem dX6_antsWith_57 : decode cX6_antsWith 57 = .ok (.ishl, 1) := by decide +kernel
theorem dX6_antsWith_58 : decode cX6_antsWith 58 = .ok (.ior, 1) := by decide +kernel
theorem dX6_antsWith_59 : decode cX6_antsWith 59 = .ok (.istore_n 2, 1) := by decide +kernel
theorem dX6_antsWith_60 : decode cX6_antsWith 60 = .ok (.iinc 3 1, 3) := by decide +kernel
theorem dX6_antsWith_63 : decode cX6_antsWith 63 = .ok (.goto (-59), 3) := by decide +kernel
theorem dX6_antsWith_66 : decode cX6_antsWith 66 = .ok (.iload_n 2, 1) := by decide +kernel
theorem dX6_antsWith_67 : decode cX6_antsWith 67 = .ok (.ireturn, 1) := by decide +kernel
set_option maxRecDepth 20000 in
theorem ggX6_isRoadShown_X0_goesAs : GoodIn wsX6_isRoadShown wsX0_goesAs := goodIn_r _ [14, 15, 16, 56, 57, 58, 59] (by decide +kernel) (by decide +kernel)
set_option maxRecDepth 20000 in
theorem gX6_isRoadShown_X0_goesAs : GoodIn wsX6_isRoadShown (wsV RX6 291 RX0 yX0_goesAs wsX0_goesAs) := goodIn_app (goodIn_of _ (by decide +kernel)) ggX6_isRoadShown_X0_goesAs
set_option maxRecDepth 20000 in
theorem ggX6_isRoadShown_X6_comesBackShifted : GoodIn wsX6_isRoadShown wsX6_comesBackShifted := goodIn_r _ [21, 22, 2, 23, 24, 25, 26, 20, 27, 28, 29, 30, 31, 32, 33, 34, 35, 36, 37, 38, 39, 40, 41, 42, 43, 44, 45, 46, 47, 48, 49, 50, 51, 52, 53, 54, 55, 60, 61, 62, 63] (by decide +kernel) (by decide +kernel)
set_option maxRecDepth 20000 in
theorem gX6_isRoadShown_X6_comesBackShifted : GoodIn wsX6_isRoadShown (wsV RX6 294 RX6 yX6_comesBackShifted wsX6_comesBackShifted) := goodIn_app (goodIn_of _ (by decide +kernel)) ggX6_isRoadShown_X6_comesBackShifted
theorem dX6_isRoadShown_0 : decode cX6_isRoadShown 0 = .ok (.aload_n 0, 1) := by decide +kernel
theorem dX6_isRoadShown_1 : decode cX6_isRoadShown 1 = .ok (.getfield 67, 3) := by decide +kernel
theorem dX6_isRoadShown_4 : decode cX6_isRoadShown 4 = .ok (.iconst 1, 1) := by decide +kernel
theorem dX6_isRoadShown_5 : decode cX6_isRoadShown 5 = .ok (.if_icmp .ne 46, 3) := by decide +kernel
theorem dX6_isRoadShown_8 : decode cX6_isRoadShown 8 = .ok (.aload_n 0, 1) := by decide +kernel
theorem dX6_isRoadShown_9 : decode cX6_isRoadShown 9 = .ok (.getfield 44, 3) := by decide +kernel
theorem dX6_isRoadShown_12 : decode cX6_isRoadShown 12 = .ok (.getfield 288, 3) := by decide +kernel
theorem dX6_isRoadShown_15 : decode cX6_isRoadShown 15 = .ok (.ifCond .ne 36, 3) := by decide +kernel
theorem dX6_isRoadShown_18 : decode cX6_isRoadShown 18 = .ok (.aload_n 0, 1) := by decide +kernel
theorem dX6_isRoadShown_19 : decode cX6_isRoadShown 19 = .ok (.getfield 76, 3) := by decide +kernel
theorem dX6_isRoadShown_22 : decode cX6_isRoadShown 22 = .ok (.aload_n 0, 1) := by decide +kernel
theorem dX6_isRoadShown_23 : decode cX6_isRoadShown 23 = .ok (.getfield 44, 3) := by decide +kernel
theorem dX6_isRoadShown_26 : decode cX6_isRoadShown 26 = .ok (.getfield 198, 3) := by decide +kernel
theorem dX6_isRoadShown_29 : decode cX6_isRoadShown 29 = .ok (.if_icmp .le 22, 3) := by decide +kernel
theorem dX6_isRoadShown_32 : decode cX6_isRoadShown 32 = .ok (.aload_n 0, 1) := by decide +kernel
theorem dX6_isRoadShown_33 : decode cX6_isRoadShown 33 = .ok (.getfield 25, 3) := by decide +kernel
theorem dX6_isRoadShown_36 : decode cX6_isRoadShown 36 = .ok (.iconst 0, 1) := by decide +kernel
theorem dX6_isRoadShown_37 : decode cX6_isRoadShown 37 = .ok (.aaload, 1) := by decide +kernel
theorem dX6_isRoadShown_38 : decode cX6_isRoadShown 38 = .ok (.aload_n 0, 1) := by decide +kernel
theorem dX6_isRoadShown_39 : decode cX6_isRoadShown 39 = .ok (.getfield 44, 3) := by decide +kernel
theorem dX6_isRoadShown_42 : decode cX6_isRoadShown 42 = .ok (.getfield 201, 3) := by decide +kernel
theorem dX6_isRoadShown_45 : decode cX6_isRoadShown 45 = .ok (.invokevirtual 291, 3) := by decide +kernel
theorem dX6_isRoadShown_48 : decode cX6_isRoadShown 48 = .ok (.ifCond .ne 5, 3) := by decide +kernel
theorem dX6_isRoadShown_51 : decode cX6_isRoadShown 51 = .ok (.iconst 0, 1) := by decide +kernel
theorem dX6_isRoadShown_52 : decode cX6_isRoadShown 52 = .ok (.ireturn, 1) := by decide +kernel
theorem dX6_isRoadShown_53 : decode cX6_isRoadShown 53 = .ok (.aload_n 0, 1) := by decide +kernel
theorem dX6_isRoadShown_54 : decode cX6_isRoadShown 54 = .ok (.getfield 25, 3) := by decide +kernel
theorem dX6_isRoadShown_57 : decode cX6_isRoadShown 57 = .ok (.iconst 0, 1) := by decide +kernel
theorem dX6_isRoadShown_58 : decode cX6_isRoadShown 58 = .ok (.aaload, 1) := by decide +kernel
theorem dX6_isRoadShown_59 : decode cX6_isRoadShown 59 = .ok (.getfield 114, 3) := by decide +kernel
theorem dX6_isRoadShown_62 : decode cX6_isRoadShown 62 = .ok (.aload_n 0, 1) := by decide +kernel
theorem dX6_isRoadShown_63 : decode cX6_isRoadShown 63 = .ok (.getfield 44, 3) := by decide +kernel
theorem dX6_isRoadShown_66 : decode cX6_isRoadShown 66 = .ok (.getfield 201, 3) := by decide +kernel
theorem dX6_isRoadShown_69 : decode cX6_isRoadShown 69 = .ok (.getfield 114, 3) := by decide +kernel
theorem dX6_isRoadShown_72 : decode cX6_isRoadShown 72 = .ok (.isub, 1) := by decide +kernel
theorem dX6_isRoadShown_73 : decode cX6_isRoadShown 73 = .ok (.istore_n 1, 1) := by decide +kernel
theorem dX6_isRoadShown_74 : decode cX6_isRoadShown 74 = .ok (.aload_n 0, 1) := by decide +kernel
theorem dX6_isRoadShown_75 : decode cX6_isRoadShown 75 = .ok (.getfield 25, 3) := by decide +kernel
theorem dX6_isRoadShown_78 : decode cX6_isRoadShown 78 = .ok (.iconst 0, 1) := by decide +kernel
theorem dX6_isRoadShown_79 : decode cX6_isRoadShown 79 = .ok (.aaload, 1) := by decide +kernel
theorem dX6_isRoadShown_80 : decode cX6_isRoadShown 80 = .ok (.getfield 117, 3) := by decide +kernel
theorem dX6_isRoadShown_83 : decode cX6_isRoadShown 83 = .ok (.aload_n 0, 1) := by decide +kernel
theorem dX6_isRoadShown_84 : decode cX6_isRoadShown 84 = .ok (.getfield 44, 3) := by decide +kernel
theorem dX6_isRoadShown_87 : decode cX6_isRoadShown 87 = .ok (.getfield 201, 3) := by decide +kernel
theorem dX6_isRoadShown_90 : decode cX6_isRoadShown 90 = .ok (.getfield 117, 3) := by decide +kernel
theorem dX6_isRoadShown_93 : decode cX6_isRoadShown 93 = .ok (.isub, 1) := by decide +kernel
theorem dX6_isRoadShown_94 : decode cX6_isRoadShown 94 = .ok (.istore_n 2, 1) := by decide +kernel
theorem dX6_isRoadShown_95 : decode cX6_isRoadShown 95 = .ok (.iload_n 1, 1) := by decide +kernel
theorem dX6_isRoadShown_96 : decode cX6_isRoadShown 96 = .ok (.ifCond .ne 7, 3) := by decide +kernel
theorem dX6_isRoadShown_99 : decode cX6_isRoadShown 99 = .ok (.iload_n 2, 1) := by decide +kernel
theorem dX6_isRoadShown_100 : decode cX6_isRoadShown 100 = .ok (.ifCond .eq 16, 3) := by decide +kernel
theorem dX6_isRoadShown_103 : decode cX6_isRoadShown 103 = .ok (.aload_n 0, 1) := by decide +kernel
theorem dX6_isRoadShown_104 : decode cX6_isRoadShown 104 = .ok (.iload_n 1, 1) := by decide +kernel
theorem dX6_isRoadShown_105 : decode cX6_isRoadShown 105 = .ok (.iload_n 2, 1) := by decide +kernel
theorem dX6_isRoadShown_106 : decode cX6_isRoadShown 106 = .ok (.invokevirtual 294, 3) := by decide +kernel
theorem dX6_isRoadShown_109 : decode cX6_isRoadShown 109 = .ok (.ifCond .eq 7, 3) := by decide +kernel
theorem dX6_isRoadShown_112 : decode cX6_isRoadShown 112 = .ok (.iconst 1, 1) := by decide +kernel
theorem dX6_isRoadShown_113 : decode cX6_isRoadShown 113 = .ok (.goto 4, 3) := by decide +kernel
theorem dX6_isRoadShown_116 : decode cX6_isRoadShown 116 = .ok (.iconst 0, 1) := by decide +kernel
theorem dX6_isRoadShown_117 : decode cX6_isRoadShown 117 = .ok (.ireturn, 1) := by decide +kernel
set_option maxRecDepth 20000 in
theorem ggX6_comesBackShifted_X6_isCarriedOn : GoodIn wsX6_comesBackShifted wsX6_isCarriedOn := goodIn_r _ [8, 2, 9, 10, 11, 12, 13, 7, 14, 15, 16, 17, 18, 19, 20, 21, 22, 23, 24, 25, 26, 27, 28, 29, 30, 31, 32, 33, 34, 35, 36, 37, 38, 39, 40] (by decide +kernel) (by decide +kernel)
set_option maxRecDepth 20000 in
theorem gX6_comesBackShifted_X6_isCarriedOn : GoodIn wsX6_comesBackShifted (wsV RX6 300 RX6 yX6_isCarriedOn wsX6_isCarriedOn) := goodIn_app (goodIn_of _ (by decide +kernel)) ggX6_comesBackShifted_X6_isCarriedOn
theorem dX6_comesBackShifted_0 : decode cX6_comesBackShifted 0 = .ok (.iconst 0, 1) := by decide +kernel
theorem dX6_comesBackShifted_1 : decode cX6_comesBackShifted 1 = .ok (.istore_n 3, 1) := by decide +kernel
theorem dX6_comesBackShifted_2 : decode cX6_comesBackShifted 2 = .ok (.iload_n 3, 1) := by decide +kernel
theorem dX6_comesBackShifted_3 : decode cX6_comesBackShifted 3 = .ok (.ldc 153, 2) := by decide +kernel
theorem dX6_comesBackShifted_5 : decode cX6_comesBackShifted 5 = .ok (.if_icmp .ge 48, 3) := by decide +kernel
theorem dX6_comesBackShifted_8 : decode cX6_comesBackShifted 8 = .ok (.aload_n 0, 1) := by decide +kernel
theorem dX6_comesBackShifted_9 : decode cX6_comesBackShifted 9 = .ok (.getfield 44, 3) := by decide +kernel
theorem dX6_comesBackShifted_12 : decode cX6_comesBackShifted 12 = .ok (.getfield 297, 3) := by decide +kernel
theorem dX6_comesBackShifted_15 : decode cX6_comesBackShifted 15 = .ok (.iload_n 3, 1) := by decide +kernel
theorem dX6_comesBackShifted_16 : decode cX6_comesBackShifted 16 = .ok (.iaload, 1) := by decide +kernel
theorem dX6_comesBackShifted_17 : decode cX6_comesBackShifted 17 = .ok (.ifCond .eq 30, 3) := by decide +kernel
theorem dX6_comesBackShifted_20 : decode cX6_comesBackShifted 20 = .ok (.aload_n 0, 1) := by decide +kernel
theorem dX6_comesBackShifted_21 : decode cX6_comesBackShifted 21 = .ok (.iload_n 3, 1) := by decide +kernel
theorem dX6_comesBackShifted_22 : decode cX6_comesBackShifted 22 = .ok (.sipush 240, 3) := by decide +kernel
theorem dX6_comesBackShifted_25 : decode cX6_comesBackShifted 25 = .ok (.irem, 1) := by decide +kernel
theorem dX6_comesBackShifted_26 : decode cX6_comesBackShifted 26 = .ok (.bipush (-120), 2) := by decide +kernel
theorem dX6_comesBackShifted_28 : decode cX6_comesBackShifted 28 = .ok (.iadd, 1) := by decide +kernel
theorem dX6_comesBackShifted_29 : decode cX6_comesBackShifted 29 = .ok (.iload_n 3, 1) := by decide +kernel
theorem dX6_comesBackShifted_30 : decode cX6_comesBackShifted 30 = .ok (.sipush 240, 3) := by decide +kernel
theorem dX6_comesBackShifted_33 : decode cX6_comesBackShifted 33 = .ok (.idiv, 1) := by decide +kernel
theorem dX6_comesBackShifted_34 : decode cX6_comesBackShifted 34 = .ok (.bipush (-120), 2) := by decide +kernel
theorem dX6_comesBackShifted_36 : decode cX6_comesBackShifted 36 = .ok (.iadd, 1) := by decide +kernel
theorem dX6_comesBackShifted_37 : decode cX6_comesBackShifted 37 = .ok (.iload_n 1, 1) := by decide +kernel
theorem dX6_comesBackShifted_38 : decode cX6_comesBackShifted 38 = .ok (.iload_n 2, 1) := by decide +kernel
theorem dX6_comesBackShifted_39 : decode cX6_comesBackShifted 39 = .ok (.invokevirtual 300, 3) := by decide +kernel
theorem dX6_comesBackShifted_42 : decode cX6_comesBackShifted 42 = .ok (.ifCond .ne 5, 3) := by decide +kernel
theorem dX6_comesBackShifted_45 : decode cX6_comesBackShifted 45 = .ok (.iconst 0, 1) := by decide +kernel
theorem dX6_comesBackShifted_46 : decode cX6_comesBackShifted 46 = .ok (.ireturn, 1) := by decide +kernel
theorem dX6_comesBackShifted_47 : decode cX6_comesBackShifted 47 = .ok (.iinc 3 1, 3) := by decide +kernel
theorem dX6_comesBackShifted_50 : decode cX6_comesBackShifted 50 = .ok (.goto (-48), 3) := by decide +kernel
theorem dX6_comesBackShifted_53 : decode cX6_comesBackShifted 53 = .ok (.iconst 1, 1) := by decide +kernel
theorem dX6_comesBackShifted_54 : decode cX6_comesBackShifted 54 = .ok (.ireturn, 1) := by decide +kernel
set_option maxRecDepth 20000 in
theorem ggX6_isCarriedOn_X6_isOn : GoodIn wsX6_isCarriedOn wsX6_isOn := goodIn_r _ [8] (by decide +kernel) (by decide +kernel)
set_option maxRecDepth 20000 in
theorem gX6_isCarriedOn_X6_isOn : GoodIn wsX6_isCarriedOn (va_wsS RX6 99 yX6_isOn wsX6_isOn) := goodIn_app (goodIn_of _ (by decide +kernel)) ggX6_isCarriedOn_X6_isOn
set_option maxRecDepth 20000 in
theorem ggX6_isCarriedOn_X6_colourIn : GoodIn wsX6_isCarriedOn wsX6_colourIn := goodIn_r _ [11, 12, 13, 7, 14, 5, 6, 8] (by decide +kernel) (by decide +kernel)
set_option maxRecDepth 20000 in
theorem gX6_isCarriedOn_X6_colourIn : GoodIn wsX6_isCarriedOn (va_wsS RX6 304 yX6_colourIn wsX6_colourIn) := goodIn_app (goodIn_of _ (by decide +kernel)) ggX6_isCarriedOn_X6_colourIn
theorem dX6_isCarriedOn_0 : decode cX6_isCarriedOn 0 = .ok (.iload_n 1, 1) := by decide +kernel
theorem dX6_isCarriedOn_1 : decode cX6_isCarriedOn 1 = .ok (.istore 5, 2) := by decide +kernel
theorem dX6_isCarriedOn_3 : decode cX6_isCarriedOn 3 = .ok (.iload_n 2, 1) := by decide +kernel
theorem dX6_isCarriedOn_4 : decode cX6_isCarriedOn 4 = .ok (.istore 6, 2) := by decide +kernel
theorem dX6_isCarriedOn_6 : decode cX6_isCarriedOn 6 = .ok (.iconst 0, 1) := by decide +kernel
theorem dX6_isCarriedOn_7 : decode cX6_isCarriedOn 7 = .ok (.istore 7, 2) := by decide +kernel
theorem dX6_isCarriedOn_9 : decode cX6_isCarriedOn 9 = .ok (.iload 7, 2) := by decide +kernel
theorem dX6_isCarriedOn_11 : decode cX6_isCarriedOn 11 = .ok (.sipush 240, 3) := by decide +kernel
theorem dX6_isCarriedOn_14 : decode cX6_isCarriedOn 14 = .ok (.if_icmp .ge 69, 3) := by decide +kernel
theorem dX6_isCarriedOn_17 : decode cX6_isCarriedOn 17 = .ok (.iload 5, 2) := by decide +kernel
theorem dX6_isCarriedOn_19 : decode cX6_isCarriedOn 19 = .ok (.iload 6, 2) := by decide +kernel
theorem dX6_isCarriedOn_21 : decode cX6_isCarriedOn 21 = .ok (.invokestatic 99, 3) := by decide +kernel
theorem dX6_isCarriedOn_24 : decode cX6_isCarriedOn 24 = .ok (.ifCond .eq 59, 3) := by decide +kernel
theorem dX6_isCarriedOn_27 : decode cX6_isCarriedOn 27 = .ok (.aload_n 0, 1) := by decide +kernel
theorem dX6_isCarriedOn_28 : decode cX6_isCarriedOn 28 = .ok (.getfield 44, 3) := by decide +kernel
theorem dX6_isCarriedOn_31 : decode cX6_isCarriedOn 31 = .ok (.getfield 205, 3) := by decide +kernel
theorem dX6_isCarriedOn_34 : decode cX6_isCarriedOn 34 = .ok (.iload 5, 2) := by decide +kernel
theorem dX6_isCarriedOn_36 : decode cX6_isCarriedOn 36 = .ok (.iload 6, 2) := by decide +kernel
theorem dX6_isCarriedOn_38 : decode cX6_isCarriedOn 38 = .ok (.invokestatic 304, 3) := by decide +kernel
theorem dX6_isCarriedOn_41 : decode cX6_isCarriedOn 41 = .ok (.istore 8, 2) := by decide +kernel
theorem dX6_isCarriedOn_43 : decode cX6_isCarriedOn 43 = .ok (.iload 5, 2) := by decide +kernel
theorem dX6_isCarriedOn_45 : decode cX6_isCarriedOn 45 = .ok (.iload_n 3, 1) := by decide +kernel
theorem dX6_isCarriedOn_46 : decode cX6_isCarriedOn 46 = .ok (.iadd, 1) := by decide +kernel
theorem dX6_isCarriedOn_47 : decode cX6_isCarriedOn 47 = .ok (.istore 5, 2) := by decide +kernel
theorem dX6_isCarriedOn_49 : decode cX6_isCarriedOn 49 = .ok (.iload 6, 2) := by decide +kernel
theorem dX6_isCarriedOn_51 : decode cX6_isCarriedOn 51 = .ok (.iload 4, 2) := by decide +kernel
theorem dX6_isCarriedOn_53 : decode cX6_isCarriedOn 53 = .ok (.iadd, 1) := by decide +kernel
theorem dX6_isCarriedOn_54 : decode cX6_isCarriedOn 54 = .ok (.istore 6, 2) := by decide +kernel
theorem dX6_isCarriedOn_56 : decode cX6_isCarriedOn 56 = .ok (.aload_n 0, 1) := by decide +kernel
theorem dX6_isCarriedOn_57 : decode cX6_isCarriedOn 57 = .ok (.getfield 12, 3) := by decide +kernel
theorem dX6_isCarriedOn_60 : decode cX6_isCarriedOn 60 = .ok (.getfield 111, 3) := by decide +kernel
theorem dX6_isCarriedOn_63 : decode cX6_isCarriedOn 63 = .ok (.iload 5, 2) := by decide +kernel
theorem dX6_isCarriedOn_65 : decode cX6_isCarriedOn 65 = .ok (.iload 6, 2) := by decide +kernel
theorem dX6_isCarriedOn_67 : decode cX6_isCarriedOn 67 = .ok (.invokestatic 304, 3) := by decide +kernel
theorem dX6_isCarriedOn_70 : decode cX6_isCarriedOn 70 = .ok (.iload 8, 2) := by decide +kernel
theorem dX6_isCarriedOn_72 : decode cX6_isCarriedOn 72 = .ok (.if_icmp .eq 5, 3) := by decide +kernel
theorem dX6_isCarriedOn_75 : decode cX6_isCarriedOn 75 = .ok (.iconst 0, 1) := by decide +kernel
theorem dX6_isCarriedOn_76 : decode cX6_isCarriedOn 76 = .ok (.ireturn, 1) := by decide +kernel
theorem dX6_isCarriedOn_77 : decode cX6_isCarriedOn 77 = .ok (.iinc 7 1, 3) := by decide +kernel
theorem dX6_isCarriedOn_80 : decode cX6_isCarriedOn 80 = .ok (.goto (-71), 3) := by decide +kernel
theorem dX6_isCarriedOn_83 : decode cX6_isCarriedOn 83 = .ok (.iconst 1, 1) := by decide +kernel
theorem dX6_isCarriedOn_84 : decode cX6_isCarriedOn 84 = .ok (.ireturn, 1) := by decide +kernel
set_option maxRecDepth 20000 in
theorem ggX6_isLikeImage_X6_colourOfImage : GoodIn wsX6_isLikeImage wsX6_colourOfImage := goodIn_r _ [8, 2, 3, 9, 10, 7, 11, 12, 13, 14, 15, 16, 17, 18, 19, 20, 21, 22, 23, 24, 25, 26, 27, 28, 29, 30, 31, 32, 33, 34, 35, 36] (by decide +kernel) (by decide +kernel)
set_option maxRecDepth 20000 in
theorem gX6_isLikeImage_X6_colourOfImage : GoodIn wsX6_isLikeImage (wsV RX6 308 RX6 yX6_colourOfImage wsX6_colourOfImage) := goodIn_app (goodIn_of _ (by decide +kernel)) ggX6_isLikeImage_X6_colourOfImage
theorem dX6_isLikeImage_0 : decode cX6_isLikeImage 0 = .ok (.iconst 0, 1) := by decide +kernel
theorem dX6_isLikeImage_1 : decode cX6_isLikeImage 1 = .ok (.istore 4, 2) := by decide +kernel
theorem dX6_isLikeImage_3 : decode cX6_isLikeImage 3 = .ok (.iload 4, 2) := by decide +kernel
theorem dX6_isLikeImage_5 : decode cX6_isLikeImage 5 = .ok (.ldc 153, 2) := by decide +kernel
theorem dX6_isLikeImage_7 : decode cX6_isLikeImage 7 = .ok (.if_icmp .ge 42, 3) := by decide +kernel
theorem dX6_isLikeImage_10 : decode cX6_isLikeImage 10 = .ok (.aload_n 0, 1) := by decide +kernel
theorem dX6_isLikeImage_11 : decode cX6_isLikeImage 11 = .ok (.getfield 12, 3) := by decide +kernel
theorem dX6_isLikeImage_14 : decode cX6_isLikeImage 14 = .ok (.getfield 111, 3) := by decide +kernel
theorem dX6_isLikeImage_17 : decode cX6_isLikeImage 17 = .ok (.iload 4, 2) := by decide +kernel
theorem dX6_isLikeImage_19 : decode cX6_isLikeImage 19 = .ok (.iaload, 1) := by decide +kernel
theorem dX6_isLikeImage_20 : decode cX6_isLikeImage 20 = .ok (.istore 5, 2) := by decide +kernel
theorem dX6_isLikeImage_22 : decode cX6_isLikeImage 22 = .ok (.iload 5, 2) := by decide +kernel
theorem dX6_isLikeImage_24 : decode cX6_isLikeImage 24 = .ok (.ifCond .eq 19, 3) := by decide +kernel
theorem dX6_isLikeImage_27 : decode cX6_isLikeImage 27 = .ok (.iload 5, 2) := by decide +kernel
theorem dX6_isLikeImage_29 : decode cX6_isLikeImage 29 = .ok (.aload_n 0, 1) := by decide +kernel
theorem dX6_isLikeImage_30 : decode cX6_isLikeImage 30 = .ok (.iload_n 1, 1) := by decide +kernel
theorem dX6_isLikeImage_31 : decode cX6_isLikeImage 31 = .ok (.iload_n 2, 1) := by decide +kernel
theorem dX6_isLikeImage_32 : decode cX6_isLikeImage 32 = .ok (.iload_n 3, 1) := by decide +kernel
theorem dX6_isLikeImage_33 : decode cX6_isLikeImage 33 = .ok (.iload 4, 2) := by decide +kernel
theorem dX6_isLikeImage_35 : decode cX6_isLikeImage 35 = .ok (.invokevirtual 308, 3) := by decide +kernel
theorem dX6_isLikeImage_38 : decode cX6_isLikeImage 38 = .ok (.if_icmp .eq 5, 3) := by decide +kernel
theorem dX6_isLikeImage_41 : decode cX6_isLikeImage 41 = .ok (.iconst 0, 1) := by decide +kernel
theorem dX6_isLikeImage_42 : decode cX6_isLikeImage 42 = .ok (.ireturn, 1) := by decide +kernel
theorem dX6_isLikeImage_43 : decode cX6_isLikeImage 43 = .ok (.iinc 4 1, 3) := by decide +kernel
theorem dX6_isLikeImage_46 : decode cX6_isLikeImage 46 = .ok (.goto (-43), 3) := by decide +kernel
theorem dX6_isLikeImage_49 : decode cX6_isLikeImage 49 = .ok (.iconst 1, 1) := by decide +kernel
theorem dX6_isLikeImage_50 : decode cX6_isLikeImage 50 = .ok (.ireturn, 1) := by decide +kernel
set_option maxRecDepth 20000 in
theorem ggX6_colourOfImage_X6_imageX : GoodIn wsX6_colourOfImage wsX6_imageX := goodIn_r _ [6] (by decide +kernel) (by decide +kernel)
set_option maxRecDepth 20000 in
theorem gX6_colourOfImage_X6_imageX : GoodIn wsX6_colourOfImage (va_wsS RX6 312 yX6_imageX wsX6_imageX) := goodIn_app (goodIn_of _ (by decide +kernel)) ggX6_colourOfImage_X6_imageX
set_option maxRecDepth 20000 in
theorem ggX6_colourOfImage_X6_imageY : GoodIn wsX6_colourOfImage wsX6_imageY := goodIn_r _ [9] (by decide +kernel) (by decide +kernel)
set_option maxRecDepth 20000 in
theorem gX6_colourOfImage_X6_imageY : GoodIn wsX6_colourOfImage (va_wsS RX6 315 yX6_imageY wsX6_imageY) := goodIn_app (goodIn_of _ (by decide +kernel)) ggX6_colourOfImage_X6_imageY
set_option maxRecDepth 20000 in
theorem ggX6_colourOfImage_X6_colourIn : GoodIn wsX6_colourOfImage wsX6_colourIn := goodIn_r _ [12, 13, 14, 5, 15, 16, 17, 18] (by decide +kernel) (by decide +kernel)
set_option maxRecDepth 20000 in
theorem gX6_colourOfImage_X6_colourIn : GoodIn wsX6_colourOfImage (va_wsS RX6 304 yX6_colourIn wsX6_colourIn) := goodIn_app (goodIn_of _ (by decide +kernel)) ggX6_colourOfImage_X6_colourIn
theorem dX6_colourOfImage_0 : decode cX6_colourOfImage 0 = .ok (.iload 4, 2) := by decide +kernel
theorem dX6_colourOfImage_2 : decode cX6_colourOfImage 2 = .ok (.sipush 240, 3) := by decide +kernel
theorem dX6_colourOfImage_5 : decode cX6_colourOfImage 5 = .ok (.irem, 1) := by decide +kernel
theorem dX6_colourOfImage_6 : decode cX6_colourOfImage 6 = .ok (.bipush (-120), 2) := by decide +kernel
theorem dX6_colourOfImage_8 : decode cX6_colourOfImage 8 = .ok (.iadd, 1) := by decide +kernel
theorem dX6_colourOfImage_9 : decode cX6_colourOfImage 9 = .ok (.istore 5, 2) := by decide +kernel
theorem dX6_colourOfImage_11 : decode cX6_colourOfImage 11 = .ok (.iload 4, 2) := by decide +kernel
theorem dX6_colourOfImage_13 : decode cX6_colourOfImage 13 = .ok (.sipush 240, 3) := by decide +kernel
theorem dX6_colourOfImage_16 : decode cX6_colourOfImage 16 = .ok (.idiv, 1) := by decide +kernel
theorem dX6_colourOfImage_17 : decode cX6_colourOfImage 17 = .ok (.bipush (-120), 2) := by decide +kernel
theorem dX6_colourOfImage_19 : decode cX6_colourOfImage 19 = .ok (.iadd, 1) := by decide +kernel
theorem dX6_colourOfImage_20 : decode cX6_colourOfImage 20 = .ok (.istore 6, 2) := by decide +kernel
theorem dX6_colourOfImage_22 : decode cX6_colourOfImage 22 = .ok (.aload_n 0, 1) := by decide +kernel
theorem dX6_colourOfImage_23 : decode cX6_colourOfImage 23 = .ok (.getfield 12, 3) := by decide +kernel
theorem dX6_colourOfImage_26 : decode cX6_colourOfImage 26 = .ok (.getfield 111, 3) := by decide +kernel
theorem dX6_colourOfImage_29 : decode cX6_colourOfImage 29 = .ok (.iload_n 1, 1) := by decide +kernel
theorem dX6_colourOfImage_30 : decode cX6_colourOfImage 30 = .ok (.iload_n 2, 1) := by decide +kernel
theorem dX6_colourOfImage_31 : decode cX6_colourOfImage 31 = .ok (.iload 5, 2) := by decide +kernel
theorem dX6_colourOfImage_33 : decode cX6_colourOfImage 33 = .ok (.iload 6, 2) := by decide +kernel
theorem dX6_colourOfImage_35 : decode cX6_colourOfImage 35 = .ok (.invokestatic 312, 3) := by decide +kernel
theorem dX6_colourOfImage_38 : decode cX6_colourOfImage 38 = .ok (.iload_n 1, 1) := by decide +kernel
theorem dX6_colourOfImage_39 : decode cX6_colourOfImage 39 = .ok (.iload_n 2, 1) := by decide +kernel
theorem dX6_colourOfImage_40 : decode cX6_colourOfImage 40 = .ok (.iload_n 3, 1) := by decide +kernel
theorem dX6_colourOfImage_41 : decode cX6_colourOfImage 41 = .ok (.iload 5, 2) := by decide +kernel
theorem dX6_colourOfImage_43 : decode cX6_colourOfImage 43 = .ok (.iload 6, 2) := by decide +kernel
theorem dX6_colourOfImage_45 : decode cX6_colourOfImage 45 = .ok (.invokestatic 315, 3) := by decide +kernel
theorem dX6_colourOfImage_48 : decode cX6_colourOfImage 48 = .ok (.invokestatic 304, 3) := by decide +kernel
theorem dX6_colourOfImage_51 : decode cX6_colourOfImage 51 = .ok (.ireturn, 1) := by decide +kernel
theorem dX6_imageX_0 : decode cX6_imageX 0 = .ok (.iload_n 0, 1) := by decide +kernel
theorem dX6_imageX_1 : decode cX6_imageX 1 = .ok (.tableswitch 37 2 4 #[27, 29, 33], 27) := by decide +kernel
theorem dX6_imageX_28 : decode cX6_imageX 28 = .ok (.iload_n 2, 1) := by decide +kernel
theorem dX6_imageX_29 : decode cX6_imageX 29 = .ok (.ireturn, 1) := by decide +kernel
theorem dX6_imageX_30 : decode cX6_imageX 30 = .ok (.iload_n 3, 1) := by decide +kernel
theorem dX6_imageX_31 : decode cX6_imageX 31 = .ok (.iload_n 1, 1) := by decide +kernel
theorem dX6_imageX_32 : decode cX6_imageX 32 = .ok (.iadd, 1) := by decide +kernel
theorem dX6_imageX_33 : decode cX6_imageX 33 = .ok (.ireturn, 1) := by decide +kernel
theorem dX6_imageX_34 : decode cX6_imageX 34 = .ok (.iload_n 1, 1) := by decide +kernel
theorem dX6_imageX_35 : decode cX6_imageX 35 = .ok (.iload_n 3, 1) := by decide +kernel
theorem dX6_imageX_36 : decode cX6_imageX 36 = .ok (.isub, 1) := by decide +kernel
theorem dX6_imageX_37 : decode cX6_imageX 37 = .ok (.ireturn, 1) := by decide +kernel
theorem dX6_imageX_38 : decode cX6_imageX 38 = .ok (.iload_n 1, 1) := by decide +kernel
theorem dX6_imageX_39 : decode cX6_imageX 39 = .ok (.iload_n 2, 1) := by decide +kernel
theorem dX6_imageX_40 : decode cX6_imageX 40 = .ok (.isub, 1) := by decide +kernel
theorem dX6_imageX_41 : decode cX6_imageX 41 = .ok (.ireturn, 1) := by decide +kernel
theorem dX6_imageY_0 : decode cX6_imageY 0 = .ok (.iload_n 0, 1) := by decide +kernel
theorem dX6_imageY_1 : decode cX6_imageY 1 = .ok (.tableswitch 42 1 4 #[31, 42, 34, 38], 31) := by decide +kernel
theorem dX6_imageY_32 : decode cX6_imageY 32 = .ok (.iload 4, 2) := by decide +kernel
theorem dX6_imageY_34 : decode cX6_imageY 34 = .ok (.ireturn, 1) := by decide +kernel
theorem dX6_imageY_35 : decode cX6_imageY 35 = .ok (.iload_n 3, 1) := by decide +kernel
theorem dX6_imageY_36 : decode cX6_imageY 36 = .ok (.iload_n 1, 1) := by decide +kernel
theorem dX6_imageY_37 : decode cX6_imageY 37 = .ok (.isub, 1) := by decide +kernel
theorem dX6_imageY_38 : decode cX6_imageY 38 = .ok (.ireturn, 1) := by decide +kernel
theorem dX6_imageY_39 : decode cX6_imageY 39 = .ok (.iload_n 1, 1) := by decide +kernel
theorem dX6_imageY_40 : decode cX6_imageY 40 = .ok (.iload_n 3, 1) := by decide +kernel
theorem dX6_imageY_41 : decode cX6_imageY 41 = .ok (.isub, 1) := by decide +kernel
theorem dX6_imageY_42 : decode cX6_imageY 42 = .ok (.ireturn, 1) := by decide +kernel
theorem dX6_imageY_43 : decode cX6_imageY 43 = .ok (.iload_n 2, 1) := by decide +kernel
theorem dX6_imageY_44 : decode cX6_imageY 44 = .ok (.iload 4, 2) := by decide +kernel
theorem dX6_imageY_46 : decode cX6_imageY 46 = .ok (.isub, 1) := by decide +kernel
theorem dX6_imageY_47 : decode cX6_imageY 47 = .ok (.ireturn, 1) := by decide +kernel
theorem dX7_in_0 : decode cX7_in 0 = .ok (.iload_n 0, 1) := by decide +kernel
theorem dX7_in_1 : decode cX7_in 1 = .ok (.iload_n 1, 1) := by decide +kernel
theorem dX7_in_2 : decode cX7_in 2 = .ok (.if_icmp .lt 12, 3) := by decide +kernel
theorem dX7_in_5 : decode cX7_in 5 = .ok (.iload_n 0, 1) := by decide +kernel
theorem dX7_in_6 : decode cX7_in 6 = .ok (.iload_n 2, 1) := by decide +kernel
theorem dX7_in_7 : decode cX7_in 7 = .ok (.if_icmp .gt 7, 3) := by decide +kernel
theorem dX7_in_10 : decode cX7_in 10 = .ok (.iconst 1, 1) := by decide +kernel
theorem dX7_in_11 : decode cX7_in 11 = .ok (.goto 4, 3) := by decide +kernel
theorem dX7_in_14 : decode cX7_in 14 = .ok (.iconst 0, 1) := by decide +kernel
theorem dX7_in_15 : decode cX7_in 15 = .ok (.ireturn, 1) := by decide +kernel
set_option maxRecDepth 20000 in
theorem ggX7_isCell_X7_in : GoodIn wsX7_isCell wsX7_in := goodIn_r _ [4] (by decide +kernel) (by decide +kernel)
set_option maxRecDepth 20000 in
theorem gX7_isCell_X7_in : GoodIn wsX7_isCell (va_wsS RX7 1 yX7_in wsX7_in) := goodIn_app (goodIn_of _ (by decide +kernel)) ggX7_isCell_X7_in
theorem dX7_isCell_0 : decode cX7_isCell 0 = .ok (.iload_n 0, 1) := by decide +kernel
theorem dX7_isCell_1 : decode cX7_isCell 1 = .ok (.bipush (-120), 2) := by decide +kernel
theorem dX7_isCell_3 : decode cX7_isCell 3 = .ok (.bipush 119, 2) := by decide +kernel
theorem dX7_isCell_5 : decode cX7_isCell 5 = .ok (.invokestatic 1, 3) := by decide +kernel
theorem dX7_isCell_8 : decode cX7_isCell 8 = .ok (.ifCond .eq 18, 3) := by decide +kernel
theorem dX7_isCell_11 : decode cX7_isCell 11 = .ok (.iload_n 1, 1) := by decide +kernel
theorem dX7_isCell_12 : decode cX7_isCell 12 = .ok (.bipush (-120), 2) := by decide +kernel
theorem dX7_isCell_14 : decode cX7_isCell 14 = .ok (.bipush 119, 2) := by decide +kernel
theorem dX7_isCell_16 : decode cX7_isCell 16 = .ok (.invokestatic 1, 3) := by decide +kernel
theorem dX7_isCell_19 : decode cX7_isCell 19 = .ok (.ifCond .eq 7, 3) := by decide +kernel
theorem dX7_isCell_22 : decode cX7_isCell 22 = .ok (.iconst 1, 1) := by decide +kernel
theorem dX7_isCell_23 : decode cX7_isCell 23 = .ok (.goto 4, 3) := by decide +kernel
theorem dX7_isCell_26 : decode cX7_isCell 26 = .ok (.iconst 0, 1) := by decide +kernel
theorem dX7_isCell_27 : decode cX7_isCell 27 = .ok (.ireturn, 1) := by decide +kernel
theorem dX7_cell_0 : decode cX7_cell 0 = .ok (.sipush 240, 3) := by decide +kernel
theorem dX7_cell_3 : decode cX7_cell 3 = .ok (.iload_n 1, 1) := by decide +kernel
theorem dX7_cell_4 : decode cX7_cell 4 = .ok (.bipush 120, 2) := by decide +kernel
theorem dX7_cell_6 : decode cX7_cell 6 = .ok (.iadd, 1) := by decide +kernel
theorem dX7_cell_7 : decode cX7_cell 7 = .ok (.imul, 1) := by decide +kernel
theorem dX7_cell_8 : decode cX7_cell 8 = .ok (.iload_n 0, 1) := by decide +kernel
theorem dX7_cell_9 : decode cX7_cell 9 = .ok (.iadd, 1) := by decide +kernel
theorem dX7_cell_10 : decode cX7_cell 10 = .ok (.bipush 120, 2) := by decide +kernel
theorem dX7_cell_12 : decode cX7_cell 12 = .ok (.iadd, 1) := by decide +kernel
theorem dX7_cell_13 : decode cX7_cell 13 = .ok (.ireturn, 1) := by decide +kernel
set_option maxRecDepth 20000 in
theorem ggX7_init_X7_floor : GoodIn wsX7_init wsX7_floor := goodIn_r _ [30, 31, 32, 33, 4, 6, 7, 8, 34, 35, 36, 37, 38, 29, 39, 40, 41, 42, 43, 44, 45, 46, 47, 48, 49, 50, 51, 52, 53, 54, 55, 56, 57, 58, 59, 60, 61, 62, 63, 64, 65, 66, 67, 68, 69, 70, 71, 72, 73, 74, 75, 76] (by decide +kernel) (by decide +kernel)
set_option maxRecDepth 20000 in
theorem gX7_init_X7_floor : GoodIn wsX7_init (wsV RX7 73 RX7 yX7_floor wsX7_floor) := goodIn_app (goodIn_of _ (by decide +kernel)) ggX7_init_X7_floor
theorem dX7_init_0 : decode cX7_init 0 = .ok (.aload_n 0, 1) := by decide +kernel
theorem dX7_init_1 : decode cX7_init 1 = .ok (.invokespecial 7, 3) := by decide +kernel
theorem dX7_init_4 : decode cX7_init 4 = .ok (.aload_n 0, 1) := by decide +kernel
theorem dX7_init_5 : decode cX7_init 5 = .ok (.ldc 13, 2) := by decide +kernel
theorem dX7_init_7 : decode cX7_init 7 = .ok (.newarray .int, 2) := by decide +kernel
theorem dX7_init_9 : decode cX7_init 9 = .ok (.putfield 14, 3) := by decide +kernel
theorem dX7_init_12 : decode cX7_init 12 = .ok (.aload_n 0, 1) := by decide +kernel
theorem dX7_init_13 : decode cX7_init 13 = .ok (.ldc 13, 2) := by decide +kernel
theorem dX7_init_15 : decode cX7_init 15 = .ok (.newarray .int, 2) := by decide +kernel
theorem dX7_init_17 : decode cX7_init 17 = .ok (.putfield 18, 3) := by decide +kernel
theorem dX7_init_20 : decode cX7_init 20 = .ok (.aload_n 0, 1) := by decide +kernel
theorem dX7_init_21 : decode cX7_init 21 = .ok (.bipush 48, 2) := by decide +kernel
theorem dX7_init_23 : decode cX7_init 23 = .ok (.newarray .int, 2) := by decide +kernel
theorem dX7_init_25 : decode cX7_init 25 = .ok (.putfield 21, 3) := by decide +kernel
theorem dX7_init_28 : decode cX7_init 28 = .ok (.aload_n 0, 1) := by decide +kernel
theorem dX7_init_29 : decode cX7_init 29 = .ok (.bipush 12, 2) := by decide +kernel
theorem dX7_init_31 : decode cX7_init 31 = .ok (.newarray .int, 2) := by decide +kernel
theorem dX7_init_33 : decode cX7_init 33 = .ok (.putfield 24, 3) := by decide +kernel
theorem dX7_init_36 : decode cX7_init 36 = .ok (.aload_n 0, 1) := by decide +kernel
theorem dX7_init_37 : decode cX7_init 37 = .ok (.bipush 6, 2) := by decide +kernel
theorem dX7_init_39 : decode cX7_init 39 = .ok (.newarray .int, 2) := by decide +kernel
theorem dX7_init_41 : decode cX7_init 41 = .ok (.putfield 27, 3) := by decide +kernel
theorem dX7_init_44 : decode cX7_init 44 = .ok (.aload_n 0, 1) := by decide +kernel
theorem dX7_init_45 : decode cX7_init 45 = .ok (.bipush 6, 2) := by decide +kernel
theorem dX7_init_47 : decode cX7_init 47 = .ok (.newarray .int, 2) := by decide +kernel
theorem dX7_init_49 : decode cX7_init 49 = .ok (.putfield 30, 3) := by decide +kernel
theorem dX7_init_52 : decode cX7_init 52 = .ok (.aload_n 0, 1) := by decide +kernel
theorem dX7_init_53 : decode cX7_init 53 = .ok (.bipush 6, 2) := by decide +kernel
theorem dX7_init_55 : decode cX7_init 55 = .ok (.newarray .int, 2) := by decide +kernel
theorem dX7_init_57 : decode cX7_init 57 = .ok (.putfield 33, 3) := by decide +kernel
theorem dX7_init_60 : decode cX7_init 60 = .ok (.aload_n 0, 1) := by decide +kernel
theorem dX7_init_61 : decode cX7_init 61 = .ok (.bipush 6, 2) := by decide +kernel
theorem dX7_init_63 : decode cX7_init 63 = .ok (.newarray .int, 2) := by decide +kernel
theorem dX7_init_65 : decode cX7_init 65 = .ok (.putfield 36, 3) := by decide +kernel
theorem dX7_init_68 : decode cX7_init 68 = .ok (.aload_n 0, 1) := by decide +kernel
theorem dX7_init_69 : decode cX7_init 69 = .ok (.bipush 6, 2) := by decide +kernel
theorem dX7_init_71 : decode cX7_init 71 = .ok (.newarray .int, 2) := by decide +kernel
theorem dX7_init_73 : decode cX7_init 73 = .ok (.putfield 39, 3) := by decide +kernel
theorem dX7_init_76 : decode cX7_init 76 = .ok (.aload_n 0, 1) := by decide +kernel
theorem dX7_init_77 : decode cX7_init 77 = .ok (.bipush 60, 2) := by decide +kernel
theorem dX7_init_79 : decode cX7_init 79 = .ok (.newarray .int, 2) := by decide +kernel
theorem dX7_init_81 : decode cX7_init 81 = .ok (.putfield 42, 3) := by decide +kernel
theorem dX7_init_84 : decode cX7_init 84 = .ok (.aload_n 0, 1) := by decide +kernel
theorem dX7_init_85 : decode cX7_init 85 = .ok (.bipush 60, 2) := by decide +kernel
theorem dX7_init_87 : decode cX7_init 87 = .ok (.newarray .int, 2) := by decide +kernel
theorem dX7_init_89 : decode cX7_init 89 = .ok (.putfield 45, 3) := by decide +kernel
theorem dX7_init_92 : decode cX7_init 92 = .ok (.aload_n 0, 1) := by decide +kernel
theorem dX7_init_93 : decode cX7_init 93 = .ok (.bipush 60, 2) := by decide +kernel
theorem dX7_init_95 : decode cX7_init 95 = .ok (.newarray .int, 2) := by decide +kernel
theorem dX7_init_97 : decode cX7_init 97 = .ok (.putfield 48, 3) := by decide +kernel
theorem dX7_init_100 : decode cX7_init 100 = .ok (.aload_n 0, 1) := by decide +kernel
theorem dX7_init_101 : decode cX7_init 101 = .ok (.bipush 60, 2) := by decide +kernel
theorem dX7_init_103 : decode cX7_init 103 = .ok (.newarray .int, 2) := by decide +kernel
theorem dX7_init_105 : decode cX7_init 105 = .ok (.putfield 51, 3) := by decide +kernel
theorem dX7_init_108 : decode cX7_init 108 = .ok (.aload_n 0, 1) := by decide +kernel
theorem dX7_init_109 : decode cX7_init 109 = .ok (.ldc 13, 2) := by decide +kernel
