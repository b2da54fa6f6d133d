theorem dX6_actBack_91 : decode cX6_actBack 91 = .ok (.aload_n 1, 1) := by decide +kernel
theorem dX6_actBack_92 : decode cX6_actBack 92 = .ok (.getfield 120, 3) := by decide +kernel
theorem dX6_actBack_95 : decode cX6_actBack 95 = .ok (.aload_n 0, 1) := by decide +kernel
theorem dX6_actBack_96 : decode cX6_actBack 96 = .ok (.getfield 19, 3) := by decide +kernel
theorem dX6_actBack_99 : decode cX6_actBack 99 = .ok (.getfield 269, 3) := by decide +kernel
theorem dX6_actBack_102 : decode cX6_actBack 102 = .ok (.aload_n 1, 1) := by decide +kernel
theorem dX6_actBack_103 : decode cX6_actBack 103 = .ok (.getfield 123, 3) := by decide +kernel
theorem dX6_actBack_106 : decode cX6_actBack 106 = .ok (.aaload, 1) := by decide +kernel
theorem dX6_actBack_107 : decode cX6_actBack 107 = .ok (.iload 5, 2) := by decide +kernel
theorem dX6_actBack_109 : decode cX6_actBack 109 = .ok (.iaload, 1) := by decide +kernel
theorem dX6_actBack_110 : decode cX6_actBack 110 = .ok (.ineg, 1) := by decide +kernel
theorem dX6_actBack_111 : decode cX6_actBack 111 = .ok (.invokevirtual 273, 3) := by decide +kernel
theorem dX6_actBack_114 : decode cX6_actBack 114 = .ok (.istore 6, 2) := by decide +kernel
theorem dX6_actBack_116 : decode cX6_actBack 116 = .ok (.aload_n 0, 1) := by decide +kernel
theorem dX6_actBack_117 : decode cX6_actBack 117 = .ok (.getfield 12, 3) := by decide +kernel
theorem dX6_actBack_120 : decode cX6_actBack 120 = .ok (.getfield 111, 3) := by decide +kernel
theorem dX6_actBack_123 : decode cX6_actBack 123 = .ok (.iload 4, 2) := by decide +kernel
theorem dX6_actBack_125 : decode cX6_actBack 125 = .ok (.iload 5, 2) := by decide +kernel
theorem dX6_actBack_127 : decode cX6_actBack 127 = .ok (.iastore, 1) := by decide +kernel
theorem dX6_actBack_128 : decode cX6_actBack 128 = .ok (.aload_n 0, 1) := by decide +kernel
theorem dX6_actBack_129 : decode cX6_actBack 129 = .ok (.getfield 12, 3) := by decide +kernel
theorem dX6_actBack_132 : decode cX6_actBack 132 = .ok (.getfield 150, 3) := by decide +kernel
theorem dX6_actBack_135 : decode cX6_actBack 135 = .ok (.iload 4, 2) := by decide +kernel
theorem dX6_actBack_137 : decode cX6_actBack 137 = .ok (.dup2, 1) := by decide +kernel
theorem dX6_actBack_138 : decode cX6_actBack 138 = .ok (.iaload, 1) := by decide +kernel
theorem dX6_actBack_139 : decode cX6_actBack 139 = .ok (.iconst 1, 1) := by decide +kernel
theorem dX6_actBack_140 : decode cX6_actBack 140 = .ok (.isub, 1) := by decide +kernel
theorem dX6_actBack_141 : decode cX6_actBack 141 = .ok (.iastore, 1) := by decide +kernel
theorem dX6_actBack_142 : decode cX6_actBack 142 = .ok (.aload_n 1, 1) := by decide +kernel
theorem dX6_actBack_143 : decode cX6_actBack 143 = .ok (.iload_n 2, 1) := by decide +kernel
theorem dX6_actBack_144 : decode cX6_actBack 144 = .ok (.iload_n 3, 1) := by decide +kernel
theorem dX6_actBack_145 : decode cX6_actBack 145 = .ok (.iload 6, 2) := by decide +kernel
theorem dX6_actBack_147 : decode cX6_actBack 147 = .ok (.aload_n 1, 1) := by decide +kernel
theorem dX6_actBack_148 : decode cX6_actBack 148 = .ok (.getfield 123, 3) := by decide +kernel
theorem dX6_actBack_151 : decode cX6_actBack 151 = .ok (.invokevirtual 103, 3) := by decide +kernel
theorem dX6_actBack_154 : decode cX6_actBack 154 = .ok (.iconst 1, 1) := by decide +kernel
theorem dX6_actBack_155 : decode cX6_actBack 155 = .ok (.ireturn, 1) := by decide +kernel
set_option maxRecDepth 20000 in
theorem ggX6_noteMeetings_X6_antsWith : GoodIn wsX6_noteMeetings wsX6_antsWith := goodIn_r _ [11, 1, 4, 5, 6, 22, 23, 24, 25, 26, 27, 28, 29, 30, 31, 32, 33, 34] (by decide +kernel) (by decide +kernel)
set_option maxRecDepth 20000 in
theorem gX6_noteMeetings_X6_antsWith : GoodIn wsX6_noteMeetings (wsV RX6 282 RX6 yX6_antsWith wsX6_antsWith) := goodIn_app (goodIn_of _ (by decide +kernel)) ggX6_noteMeetings_X6_antsWith
set_option maxRecDepth 20000 in
theorem ggX6_noteMeetings_X3_keep : GoodIn wsX6_noteMeetings wsX3_keep := goodIn_r _ [16, 17, 18, 19, 20, 21, 35, 36, 37, 38, 39] (by decide +kernel) (by decide +kernel)
set_option maxRecDepth 20000 in
theorem gX6_noteMeetings_X3_keep : GoodIn wsX6_noteMeetings (wsV RX6 285 RX3 yX3_keep wsX3_keep) := goodIn_app (goodIn_of _ (by decide +kernel)) ggX6_noteMeetings_X3_keep
theorem dX6_noteMeetings_0 : decode cX6_noteMeetings 0 = .ok (.iconst 0, 1) := by decide +kernel
theorem dX6_noteMeetings_1 : decode cX6_noteMeetings 1 = .ok (.istore_n 1, 1) := by decide +kernel
theorem dX6_noteMeetings_2 : decode cX6_noteMeetings 2 = .ok (.iconst 0, 1) := by decide +kernel
theorem dX6_noteMeetings_3 : decode cX6_noteMeetings 3 = .ok (.istore_n 2, 1) := by decide +kernel
theorem dX6_noteMeetings_4 : decode cX6_noteMeetings 4 = .ok (.iload_n 2, 1) := by decide +kernel
theorem dX6_noteMeetings_5 : decode cX6_noteMeetings 5 = .ok (.aload_n 0, 1) := by decide +kernel
theorem dX6_noteMeetings_6 : decode cX6_noteMeetings 6 = .ok (.getfield 67, 3) := by decide +kernel
theorem dX6_noteMeetings_9 : decode cX6_noteMeetings 9 = .ok (.if_icmp .ge 64, 3) := by decide +kernel
theorem dX6_noteMeetings_12 : decode cX6_noteMeetings 12 = .ok (.aload_n 0, 1) := by decide +kernel
theorem dX6_noteMeetings_13 : decode cX6_noteMeetings 13 = .ok (.iload_n 2, 1) := by decide +kernel
theorem dX6_noteMeetings_14 : decode cX6_noteMeetings 14 = .ok (.invokevirtual 282, 3) := by decide +kernel
theorem dX6_noteMeetings_17 : decode cX6_noteMeetings 17 = .ok (.istore_n 3, 1) := by decide +kernel
theorem dX6_noteMeetings_18 : decode cX6_noteMeetings 18 = .ok (.iload_n 1, 1) := by decide +kernel
theorem dX6_noteMeetings_19 : decode cX6_noteMeetings 19 = .ok (.iconst 1, 1) := by decide +kernel
theorem dX6_noteMeetings_20 : decode cX6_noteMeetings 20 = .ok (.iload_n 2, 1) := by decide +kernel
theorem dX6_noteMeetings_21 : decode cX6_noteMeetings 21 = .ok (.ishl, 1) := by decide +kernel
theorem dX6_noteMeetings_22 : decode cX6_noteMeetings 22 = .ok (.iand, 1) := by decide +kernel
theorem dX6_noteMeetings_23 : decode cX6_noteMeetings 23 = .ok (.ifCond .ne 44, 3) := by decide +kernel
theorem dX6_noteMeetings_26 : decode cX6_noteMeetings 26 = .ok (.iload_n 3, 1) := by decide +kernel
theorem dX6_noteMeetings_27 : decode cX6_noteMeetings 27 = .ok (.iconst 1, 1) := by decide +kernel
theorem dX6_noteMeetings_28 : decode cX6_noteMeetings 28 = .ok (.iload_n 2, 1) := by decide +kernel
theorem dX6_noteMeetings_29 : decode cX6_noteMeetings 29 = .ok (.ishl, 1) := by decide +kernel
theorem dX6_noteMeetings_30 : decode cX6_noteMeetings 30 = .ok (.if_icmp .eq 37, 3) := by decide +kernel
theorem dX6_noteMeetings_33 : decode cX6_noteMeetings 33 = .ok (.aload_n 0, 1) := by decide +kernel
theorem dX6_noteMeetings_34 : decode cX6_noteMeetings 34 = .ok (.getfield 37, 3) := by decide +kernel
theorem dX6_noteMeetings_37 : decode cX6_noteMeetings 37 = .ok (.aload_n 0, 1) := by decide +kernel
theorem dX6_noteMeetings_38 : decode cX6_noteMeetings 38 = .ok (.getfield 76, 3) := by decide +kernel
theorem dX6_noteMeetings_41 : decode cX6_noteMeetings 41 = .ok (.aload_n 0, 1) := by decide +kernel
theorem dX6_noteMeetings_42 : decode cX6_noteMeetings 42 = .ok (.getfield 25, 3) := by decide +kernel
theorem dX6_noteMeetings_45 : decode cX6_noteMeetings 45 = .ok (.iload_n 2, 1) := by decide +kernel
theorem dX6_noteMeetings_46 : decode cX6_noteMeetings 46 = .ok (.aaload, 1) := by decide +kernel
theorem dX6_noteMeetings_47 : decode cX6_noteMeetings 47 = .ok (.getfield 114, 3) := by decide +kernel
theorem dX6_noteMeetings_50 : decode cX6_noteMeetings 50 = .ok (.aload_n 0, 1) := by decide +kernel
theorem dX6_noteMeetings_51 : decode cX6_noteMeetings 51 = .ok (.getfield 25, 3) := by decide +kernel
theorem dX6_noteMeetings_54 : decode cX6_noteMeetings 54 = .ok (.iload_n 2, 1) := by decide +kernel
theorem dX6_noteMeetings_55 : decode cX6_noteMeetings 55 = .ok (.aaload, 1) := by decide +kernel
theorem dX6_noteMeetings_56 : decode cX6_noteMeetings 56 = .ok (.getfield 117, 3) := by decide +kernel
theorem dX6_noteMeetings_59 : decode cX6_noteMeetings 59 = .ok (.iload_n 3, 1) := by decide +kernel
theorem dX6_noteMeetings_60 : decode cX6_noteMeetings 60 = .ok (.invokevirtual 285, 3) := by decide +kernel
theorem dX6_noteMeetings_63 : decode cX6_noteMeetings 63 = .ok (.iload_n 1, 1) := by decide +kernel
theorem dX6_noteMeetings_64 : decode cX6_noteMeetings 64 = .ok (.iload_n 3, 1) := by decide +kernel
theorem dX6_noteMeetings_65 : decode cX6_noteMeetings 65 = .ok (.ior, 1) := by decide +kernel
theorem dX6_noteMeetings_66 : decode cX6_noteMeetings 66 = .ok (.istore_n 1, 1) := by decide +kernel
theorem dX6_noteMeetings_67 : decode cX6_noteMeetings 67 = .ok (.iinc 2 1, 3) := by decide +kernel
theorem dX6_noteMeetings_70 : decode cX6_noteMeetings 70 = .ok (.goto (-66), 3) := by decide +kernel
theorem dX6_noteMeetings_73 : decode cX6_noteMeetings 73 = .ok (.return_, 1) := by decide +kernel
theorem dX6_antsWith_0 : decode cX6_antsWith 0 = .ok (.iconst 0, 1) := by decide +kernel
theorem dX6_antsWith_1 : decode cX6_antsWith 1 = .ok (.istore_n 2, 1) := by decide +kernel
theorem dX6_antsWith_2 : decode cX6_antsWith 2 = .ok (.iconst 0, 1) := by decide +kernel
theorem dX6_antsWith_3 : decode cX6_antsWith 3 = .ok (.istore_n 3, 1) := by decide +kernel
theorem dX6_antsWith_4 : decode cX6_antsWith 4 = .ok (.iload_n 3, 1) := by decide +kernel
theorem dX6_antsWith_5 : decode cX6_antsWith 5 = .ok (.aload_n 0, 1) := by decide +kernel
theorem dX6_antsWith_6 : decode cX6_antsWith 6 = .ok (.getfield 67, 3) := by decide +kernel
theorem dX6_antsWith_9 : decode cX6_antsWith 9 = .ok (.if_icmp .ge 57, 3) := by decide +kernel
theorem dX6_antsWith_12 : decode cX6_antsWith 12 = .ok (.aload_n 0, 1) := by decide +kernel
theorem dX6_antsWith_13 : decode cX6_antsWith 13 = .ok (.getfield 25, 3) := by decide +kernel
theorem dX6_antsWith_16 : decode cX6_antsWith 16 = .ok (.iload_n 3, 1) := by decide +kernel
theorem dX6_antsWith_17 : decode cX6_antsWith 17 = .ok (.aaload, 1) := by decide +kernel
theorem dX6_antsWith_18 : decode cX6_antsWith 18 = .ok (.getfield 114, 3) := by decide +kernel
theorem dX6_antsWith_21 : decode cX6_antsWith 21 = .ok (.aload_n 0, 1) := by decide +kernel
theorem dX6_antsWith_22 : decode cX6_antsWith 22 = .ok (.getfield 25, 3) := by decide +kernel
theorem dX6_antsWith_25 : decode cX6_antsWith 25 = .ok (.iload_n 1, 1) := by decide +kernel
theorem dX6_antsWith_26 : decode cX6_antsWith 26 = .ok (.aaload, 1) := by decide +kernel
theorem dX6_antsWith_27 : decode cX6_antsWith 27 = .ok (.getfield 114, 3) := by decide +kernel
theorem dX6_antsWith_30 : decode cX6_antsWith 30 = .ok (.if_icmp .ne 30, 3) := by decide +kernel
theorem dX6_antsWith_33 : decode cX6_antsWith 33 = .ok (.aload_n 0, 1) := by decide +kernel
theorem dX6_antsWith_34 : decode cX6_antsWith 34 = .ok (.getfield 25, 3) := by decide +kernel
theorem dX6_antsWith_37 : decode cX6_antsWith 37 = .ok (.iload_n 3, 1) := by decide +kernel
theorem dX6_antsWith_38 : decode cX6_antsWith 38 = .ok (.aaload, 1) := by decide +kernel
theorem dX6_antsWith_39 : decode cX6_antsWith 39 = .ok (.getfield 117, 3) := by decide +kernel
theorem dX6_antsWith_42 : decode cX6_antsWith 42 = .ok (.aload_n 0, 1) := by decide +kernel
theorem dX6_antsWith_43 : decode cX6_antsWith 43 = .ok (.getfield 25, 3) := by decide +kernel
theorem dX6_antsWith_46 : decode cX6_antsWith 46 = .ok (.iload_n 1, 1) := by decide +kernel
theorem dX6_antsWith_47 : decode cX6_antsWith 47 = .ok (.aaload, 1) := by decide +kernel
theorem dX6_antsWith_48 : decode cX6_antsWith 48 = .ok (.getfield 117, 3) := by decide +kernel
theorem dX6_antsWith_51 : decode cX6_antsWith 51 = .ok (.if_icmp .ne 9, 3) := by decide +kernel
theorem dX6_antsWith_54 : decode cX6_antsWith 54 = .ok (.iload_n 2, 1) := by decide +kernel
theorem dX6_antsWith_55 : decode cX6_antsWith 55 = .ok (.iconst 1, 1) := by decide +kernel
theorem dX6_antsWith_56 : decode cX6_antsWith 56 = .ok (.iload_n 3, 1) := by decide +kernel
theorem dX6_antsWith_57 : decode cX6_antsWith 57 = .ok (.ishl, 1) := by decide +kernel
theorem dX6_antsWith_58 : decode cX6_antsWith 58 = .ok (.ior, 1) := by decide +kernel
theorem dX6_antsWith_59 : decode cX6_antsWith 59 = .ok (.istore_n 2, 1) := by decide +kernel
theorem dX6_antsWith_60 : decode cX6_antsWith 60 = .ok (.iinc 3 1, 3) := by decide +kernel
theorem dX6_antsWith_63 : decode cX6_antsWith 63 = .ok (.goto (-59), 3) := by decide +kernel
theorem dX6_antsWith_66 : decode cX6_antsWith 66 = .ok (.iload_n 2, 1) := by decide +kernel
theorem dX6_antsWith_67 : decode cX6_antsWith 67 = .ok (.ireturn, 1) := by decide +kernel
theorem dJ7_fill_53178_0 : decode cJ7_fill_53178 0 = .ok (.iconst 0, 1) := by decide +kernel
theorem dJ7_fill_53178_1 : decode cJ7_fill_53178 1 = .ok (.istore_n 2, 1) := by decide +kernel
theorem dJ7_fill_53178_2 : decode cJ7_fill_53178 2 = .ok (.aload_n 0, 1) := by decide +kernel
theorem dJ7_fill_53178_3 : decode cJ7_fill_53178 3 = .ok (.arraylength, 1) := by decide +kernel
theorem dJ7_fill_53178_4 : decode cJ7_fill_53178 4 = .ok (.istore_n 3, 1) := by decide +kernel
theorem dJ7_fill_53178_5 : decode cJ7_fill_53178 5 = .ok (.iload_n 2, 1) := by decide +kernel
theorem dJ7_fill_53178_6 : decode cJ7_fill_53178 6 = .ok (.iload_n 3, 1) := by decide +kernel
theorem dJ7_fill_53178_7 : decode cJ7_fill_53178 7 = .ok (.if_icmp .ge 13, 3) := by decide +kernel
theorem dJ7_fill_53178_10 : decode cJ7_fill_53178 10 = .ok (.aload_n 0, 1) := by decide +kernel
theorem dJ7_fill_53178_11 : decode cJ7_fill_53178 11 = .ok (.iload_n 2, 1) := by decide +kernel
theorem dJ7_fill_53178_12 : decode cJ7_fill_53178 12 = .ok (.iload_n 1, 1) := by decide +kernel
theorem dJ7_fill_53178_13 : decode cJ7_fill_53178 13 = .ok (.iastore, 1) := by decide +kernel
theorem dJ7_fill_53178_14 : decode cJ7_fill_53178 14 = .ok (.iinc 2 1, 3) := by decide +kernel
theorem dJ7_fill_53178_17 : decode cJ7_fill_53178 17 = .ok (.goto (-12), 3) := by decide +kernel
theorem dJ7_fill_53178_20 : decode cJ7_fill_53178 20 = .ok (.return_, 1) := by decide +kernel
theorem dL_cell_0 : decode cL_cell 0 = .ok (.iload_n 1, 1) := by decide +kernel
theorem dL_cell_1 : decode cL_cell 1 = .ok (.aload_n 0, 1) := by decide +kernel
theorem dL_cell_2 : decode cL_cell 2 = .ok (.arraylength, 1) := by decide +kernel
theorem dL_cell_3 : decode cL_cell 3 = .ok (.if_icmp .ge 9, 3) := by decide +kernel
theorem dL_cell_6 : decode cL_cell 6 = .ok (.aload_n 0, 1) := by decide +kernel
theorem dL_cell_7 : decode cL_cell 7 = .ok (.iload_n 1, 1) := by decide +kernel
theorem dL_cell_8 : decode cL_cell 8 = .ok (.iaload, 1) := by decide +kernel
theorem dL_cell_9 : decode cL_cell 9 = .ok (.goto 10, 3) := by decide +kernel
theorem dL_cell_12 : decode cL_cell 12 = .ok (.ldc 7, 2) := by decide +kernel
theorem dL_cell_14 : decode cL_cell 14 = .ok (.iload_n 1, 1) := by decide +kernel
theorem dL_cell_15 : decode cL_cell 15 = .ok (.imul, 1) := by decide +kernel
theorem dL_cell_16 : decode cL_cell 16 = .ok (.bipush 107, 2) := by decide +kernel
theorem dL_cell_18 : decode cL_cell 18 = .ok (.iadd, 1) := by decide +kernel
theorem dL_cell_19 : decode cL_cell 19 = .ok (.ldc 8, 2) := by decide +kernel
theorem dL_cell_21 : decode cL_cell 21 = .ok (.iand, 1) := by decide +kernel
theorem dL_cell_22 : decode cL_cell 22 = .ok (.ireturn, 1) := by decide +kernel
set_option maxRecDepth 20000 in
theorem ggL_lays_L_cell : GoodIn wsL_lays wsL_cell := goodIn_r _ [4, 5, 6] (by decide +kernel) (by decide +kernel)
set_option maxRecDepth 20000 in
theorem gL_lays_L_cell : GoodIn wsL_lays (va_wsS RL 9 yL_cell wsL_cell) := goodIn_app (goodIn_of _ (by decide +kernel)) ggL_lays_L_cell
set_option maxRecDepth 20000 in
theorem ggL_lays_X6_floor : GoodIn wsL_lays wsX6_floor := goodIn_r _ [11, 12, 13, 14, 15, 16, 17, 18, 19, 10, 20, 21, 22, 23, 24, 25, 26, 27, 28, 29, 30, 31, 32, 33, 34, 35, 36, 37, 38, 39, 40, 41, 42, 43, 44, 45, 46, 47, 48, 49, 50, 51, 52, 53, 54, 55, 56, 57, 58, 107, 108, 109, 110, 111, 112, 113, 114, 115, 116, 117, 118, 119, 120, 121, 122, 123, 124, 125, 126, 127, 128, 129, 130, 131, 132, 133, 134] (by decide +kernel) (by decide +kernel)
set_option maxRecDepth 20000 in
theorem gL_lays_X6_floor : GoodIn wsL_lays (wsV RL 15 RX6 yX6_floor wsX6_floor) := goodIn_app (goodIn_of _ (by decide +kernel)) ggL_lays_X6_floor
set_option maxRecDepth 20000 in
theorem ggL_lays_X6_type : GoodIn wsL_lays wsX6_type := goodIn_r _ [62, 14, 18, 19, 10, 20, 63, 64, 65, 41, 66, 67, 68, 69, 70, 71, 72, 107, 108, 109, 110, 111, 112, 113, 114, 115, 120, 121, 122] (by decide +kernel) (by decide +kernel)
set_option maxRecDepth 20000 in
theorem gL_lays_X6_type : GoodIn wsL_lays (wsV RL 21 RX6 yX6_type wsX6_type) := goodIn_app (goodIn_of _ (by decide +kernel)) ggL_lays_X6_type
set_option maxRecDepth 20000 in
theorem ggL_lays_X6_rule : GoodIn wsL_lays wsX6_rule := goodIn_r _ [76, 14, 13, 77, 16, 78, 79, 10, 80, 18, 19, 20, 34, 35, 36, 24, 37, 26, 81, 82, 83, 41, 84, 67, 72, 43, 44, 45, 46, 85, 86, 87, 56, 88, 89, 107, 108, 109, 110, 111, 112, 113, 114, 115, 116, 117, 118, 119, 120, 121, 122, 128, 129, 130, 131, 132, 133, 134] (by decide +kernel) (by decide +kernel)
set_option maxRecDepth 20000 in
theorem gL_lays_X6_rule : GoodIn wsL_lays (wsV RL 25 RX6 yX6_rule wsX6_rule) := goodIn_app (goodIn_of _ (by decide +kernel)) ggL_lays_X6_rule
set_option maxRecDepth 20000 in
theorem ggL_lays_X6_ant : GoodIn wsL_lays wsX6_ant := goodIn_r _ [93, 13, 12, 94, 16, 95, 96, 10, 97, 34, 35, 36, 24, 37, 26, 18, 19, 20, 78, 79, 80, 98, 99, 100, 101, 102, 103, 104, 105, 106, 85, 86, 87, 56, 88, 89, 107, 108, 109, 110, 111, 112, 113, 114, 115, 116, 117, 118, 119, 135, 136, 137, 138, 128, 129, 130, 131, 132, 133, 134] (by decide +kernel) (by decide +kernel)
set_option maxRecDepth 20000 in
theorem gL_lays_X6_ant : GoodIn wsL_lays (wsV RL 29 RX6 yX6_ant wsX6_ant) := goodIn_app (goodIn_of _ (by decide +kernel)) ggL_lays_X6_ant
theorem dL_lays_0 : decode cL_lays 0 = .ok (.aload_n 1, 1) := by decide +kernel
theorem dL_lays_1 : decode cL_lays 1 = .ok (.iconst 0, 1) := by decide +kernel
theorem dL_lays_2 : decode cL_lays 2 = .ok (.invokestatic 9, 3) := by decide +kernel
theorem dL_lays_5 : decode cL_lays 5 = .ok (.iconst 1, 1) := by decide +kernel
theorem dL_lays_6 : decode cL_lays 6 = .ok (.iand, 1) := by decide +kernel
theorem dL_lays_7 : decode cL_lays 7 = .ok (.istore_n 2, 1) := by decide +kernel
theorem dL_lays_8 : decode cL_lays 8 = .ok (.iconst 2, 1) := by decide +kernel
theorem dL_lays_9 : decode cL_lays 9 = .ok (.aload_n 1, 1) := by decide +kernel
theorem dL_lays_10 : decode cL_lays 10 = .ok (.iconst 1, 1) := by decide +kernel
theorem dL_lays_11 : decode cL_lays 11 = .ok (.invokestatic 9, 3) := by decide +kernel
theorem dL_lays_14 : decode cL_lays 14 = .ok (.bipush 11, 2) := by decide +kernel
theorem dL_lays_16 : decode cL_lays 16 = .ok (.irem, 1) := by decide +kernel
theorem dL_lays_17 : decode cL_lays 17 = .ok (.iadd, 1) := by decide +kernel
theorem dL_lays_18 : decode cL_lays 18 = .ok (.istore_n 3, 1) := by decide +kernel
theorem dL_lays_19 : decode cL_lays 19 = .ok (.aload_n 0, 1) := by decide +kernel
theorem dL_lays_20 : decode cL_lays 20 = .ok (.iload_n 2, 1) := by decide +kernel
theorem dL_lays_21 : decode cL_lays 21 = .ok (.iload_n 3, 1) := by decide +kernel
theorem dL_lays_22 : decode cL_lays 22 = .ok (.invokevirtual 15, 3) := by decide +kernel
theorem dL_lays_25 : decode cL_lays 25 = .ok (.istore 4, 2) := by decide +kernel
theorem dL_lays_27 : decode cL_lays 27 = .ok (.iconst 0, 1) := by decide +kernel
theorem dL_lays_28 : decode cL_lays 28 = .ok (.istore 5, 2) := by decide +kernel
theorem dL_lays_30 : decode cL_lays 30 = .ok (.iload 5, 2) := by decide +kernel
theorem dL_lays_32 : decode cL_lays 32 = .ok (.iconst 4, 1) := by decide +kernel
theorem dL_lays_33 : decode cL_lays 33 = .ok (.if_icmp .ge 140, 3) := by decide +kernel
theorem dL_lays_36 : decode cL_lays 36 = .ok (.iconst 0, 1) := by decide +kernel
theorem dL_lays_37 : decode cL_lays 37 = .ok (.istore 6, 2) := by decide +kernel
theorem dL_lays_39 : decode cL_lays 39 = .ok (.iload 6, 2) := by decide +kernel
theorem dL_lays_41 : decode cL_lays 41 = .ok (.iload_n 3, 1) := by decide +kernel
theorem dL_lays_42 : decode cL_lays 42 = .ok (.if_icmp .ge 117, 3) := by decide +kernel
theorem dL_lays_45 : decode cL_lays 45 = .ok (.aload_n 1, 1) := by decide +kernel
theorem dL_lays_46 : decode cL_lays 46 = .ok (.iconst 2, 1) := by decide +kernel
theorem dL_lays_47 : decode cL_lays 47 = .ok (.iload 5, 2) := by decide +kernel
theorem dL_lays_49 : decode cL_lays 49 = .ok (.iconst 3, 1) := by decide +kernel
theorem dL_lays_50 : decode cL_lays 50 = .ok (.imul, 1) := by decide +kernel
theorem dL_lays_51 : decode cL_lays 51 = .ok (.iadd, 1) := by decide +kernel
theorem dL_lays_52 : decode cL_lays 52 = .ok (.iload 6, 2) := by decide +kernel
theorem dL_lays_54 : decode cL_lays 54 = .ok (.iadd, 1) := by decide +kernel
theorem dL_lays_55 : decode cL_lays 55 = .ok (.invokestatic 9, 3) := by decide +kernel
theorem dL_lays_58 : decode cL_lays 58 = .ok (.iload 6, 2) := by decide +kernel
theorem dL_lays_60 : decode cL_lays 60 = .ok (.ishr, 1) := by decide +kernel
theorem dL_lays_61 : decode cL_lays 61 = .ok (.istore 7, 2) := by decide +kernel
theorem dL_lays_63 : decode cL_lays 63 = .ok (.iload 7, 2) := by decide +kernel
theorem dL_lays_65 : decode cL_lays 65 = .ok (.iconst 4, 1) := by decide +kernel
theorem dL_lays_66 : decode cL_lays 66 = .ok (.irem, 1) := by decide +kernel
theorem dL_lays_67 : decode cL_lays 67 = .ok (.ifCond .ne 8, 3) := by decide +kernel
theorem dL_lays_70 : decode cL_lays 70 = .ok (.bipush 78, 2) := by decide +kernel
theorem dL_lays_72 : decode cL_lays 72 = .ok (.goto 69, 3) := by decide +kernel
theorem dL_lays_75 : decode cL_lays 75 = .ok (.iload 7, 2) := by decide +kernel
theorem dL_lays_77 : decode cL_lays 77 = .ok (.iconst 4, 1) := by decide +kernel
theorem dL_lays_78 : decode cL_lays 78 = .ok (.irem, 1) := by decide +kernel
theorem dL_lays_79 : decode cL_lays 79 = .ok (.iconst 1, 1) := by decide +kernel
theorem dL_lays_80 : decode cL_lays 80 = .ok (.if_icmp .ne 8, 3) := by decide +kernel
theorem dL_lays_83 : decode cL_lays 83 = .ok (.bipush 82, 2) := by decide +kernel
theorem dL_lays_85 : decode cL_lays 85 = .ok (.goto 56, 3) := by decide +kernel
theorem dL_lays_88 : decode cL_lays 88 = .ok (.iload 7, 2) := by decide +kernel
theorem dL_lays_90 : decode cL_lays 90 = .ok (.iconst 4, 1) := by decide +kernel
theorem dL_lays_91 : decode cL_lays 91 = .ok (.irem, 1) := by decide +kernel
theorem dL_lays_92 : decode cL_lays 92 = .ok (.iconst 2, 1) := by decide +kernel
theorem dL_lays_93 : decode cL_lays 93 = .ok (.if_icmp .ne 8, 3) := by decide +kernel
theorem dL_lays_96 : decode cL_lays 96 = .ok (.bipush 76, 2) := by decide +kernel
theorem dL_lays_98 : decode cL_lays 98 = .ok (.goto 43, 3) := by decide +kernel
theorem dL_lays_101 : decode cL_lays 101 = .ok (.iload 7, 2) := by decide +kernel
theorem dL_lays_103 : decode cL_lays 103 = .ok (.bipush 8, 2) := by decide +kernel
theorem dL_lays_105 : decode cL_lays 105 = .ok (.irem, 1) := by decide +kernel
theorem dL_lays_106 : decode cL_lays 106 = .ok (.iconst 3, 1) := by decide +kernel
theorem dL_lays_107 : decode cL_lays 107 = .ok (.if_icmp .ne 8, 3) := by decide +kernel
theorem dL_lays_110 : decode cL_lays 110 = .ok (.bipush 85, 2) := by decide +kernel
theorem dL_lays_112 : decode cL_lays 112 = .ok (.goto 29, 3) := by decide +kernel
theorem dL_lays_115 : decode cL_lays 115 = .ok (.iload_n 2, 1) := by decide +kernel
theorem dL_lays_116 : decode cL_lays 116 = .ok (.ifCond .ne 8, 3) := by decide +kernel
theorem dL_lays_119 : decode cL_lays 119 = .ok (.bipush 82, 2) := by decide +kernel
theorem dL_lays_121 : decode cL_lays 121 = .ok (.goto 20, 3) := by decide +kernel
theorem dL_lays_124 : decode cL_lays 124 = .ok (.iload 7, 2) := by decide +kernel
theorem dL_lays_126 : decode cL_lays 126 = .ok (.bipush 16, 2) := by decide +kernel
theorem dL_lays_128 : decode cL_lays 128 = .ok (.irem, 1) := by decide +kernel
theorem dL_lays_129 : decode cL_lays 129 = .ok (.bipush 7, 2) := by decide +kernel
theorem dL_lays_131 : decode cL_lays 131 = .ok (.if_icmp .ne 8, 3) := by decide +kernel
theorem dL_lays_134 : decode cL_lays 134 = .ok (.bipush 83, 2) := by decide +kernel
theorem dL_lays_136 : decode cL_lays 136 = .ok (.goto 5, 3) := by decide +kernel
theorem dL_lays_139 : decode cL_lays 139 = .ok (.bipush 77, 2) := by decide +kernel
theorem dL_lays_141 : decode cL_lays 141 = .ok (.istore 8, 2) := by decide +kernel
theorem dL_lays_143 : decode cL_lays 143 = .ok (.aload_n 0, 1) := by decide +kernel
theorem dL_lays_144 : decode cL_lays 144 = .ok (.iload 8, 2) := by decide +kernel
theorem dL_lays_146 : decode cL_lays 146 = .ok (.i2l, 1) := by decide +kernel
theorem dL_lays_147 : decode cL_lays 147 = .ok (.iconst 1, 1) := by decide +kernel
theorem dL_lays_148 : decode cL_lays 148 = .ok (.invokevirtual 21, 3) := by decide +kernel
theorem dL_lays_151 : decode cL_lays 151 = .ok (.istore 9, 2) := by decide +kernel
theorem dL_lays_153 : decode cL_lays 153 = .ok (.iinc 6 1, 3) := by decide +kernel
theorem dL_lays_156 : decode cL_lays 156 = .ok (.goto (-117), 3) := by decide +kernel
theorem dL_lays_159 : decode cL_lays 159 = .ok (.aload_n 0, 1) := by decide +kernel
theorem dL_lays_160 : decode cL_lays 160 = .ok (.iload 5, 2) := by decide +kernel
theorem dL_lays_162 : decode cL_lays 162 = .ok (.invokevirtual 25, 3) := by decide +kernel
theorem dL_lays_165 : decode cL_lays 165 = .ok (.istore 6, 2) := by decide +kernel
theorem dL_lays_167 : decode cL_lays 167 = .ok (.iinc 5 1, 3) := by decide +kernel
theorem dL_lays_170 : decode cL_lays 170 = .ok (.goto (-140), 3) := by decide +kernel
theorem dL_lays_173 : decode cL_lays 173 = .ok (.iconst 1, 1) := by decide +kernel
theorem dL_lays_174 : decode cL_lays 174 = .ok (.aload_n 1, 1) := by decide +kernel
theorem dL_lays_175 : decode cL_lays 175 = .ok (.bipush 20, 2) := by decide +kernel
theorem dL_lays_177 : decode cL_lays 177 = .ok (.invokestatic 9, 3) := by decide +kernel
theorem dL_lays_180 : decode cL_lays 180 = .ok (.iconst 4, 1) := by decide +kernel
theorem dL_lays_181 : decode cL_lays 181 = .ok (.irem, 1) := by decide +kernel
theorem dL_lays_182 : decode cL_lays 182 = .ok (.iadd, 1) := by decide +kernel
theorem dL_lays_183 : decode cL_lays 183 = .ok (.istore 5, 2) := by decide +kernel
theorem dL_lays_185 : decode cL_lays 185 = .ok (.iconst 0, 1) := by decide +kernel
theorem dL_lays_186 : decode cL_lays 186 = .ok (.istore 6, 2) := by decide +kernel
theorem dL_lays_188 : decode cL_lays 188 = .ok (.iload 6, 2) := by decide +kernel
theorem dL_lays_190 : decode cL_lays 190 = .ok (.iload 5, 2) := by decide +kernel
theorem dL_lays_192 : decode cL_lays 192 = .ok (.if_icmp .ge 67, 3) := by decide +kernel
theorem dL_lays_195 : decode cL_lays 195 = .ok (.aload_n 1, 1) := by decide +kernel
theorem dL_lays_196 : decode cL_lays 196 = .ok (.bipush 21, 2) := by decide +kernel
theorem dL_lays_198 : decode cL_lays 198 = .ok (.iload 6, 2) := by decide +kernel
theorem dL_lays_200 : decode cL_lays 200 = .ok (.iadd, 1) := by decide +kernel
theorem dL_lays_201 : decode cL_lays 201 = .ok (.invokestatic 9, 3) := by decide +kernel
theorem dL_lays_204 : decode cL_lays 204 = .ok (.istore 7, 2) := by decide +kernel
theorem dL_lays_206 : decode cL_lays 206 = .ok (.aload_n 0, 1) := by decide +kernel
theorem dL_lays_207 : decode cL_lays 207 = .ok (.iload 7, 2) := by decide +kernel
theorem dL_lays_209 : decode cL_lays 209 = .ok (.bipush 15, 2) := by decide +kernel
theorem dL_lays_211 : decode cL_lays 211 = .ok (.irem, 1) := by decide +kernel
theorem dL_lays_212 : decode cL_lays 212 = .ok (.bipush 7, 2) := by decide +kernel
theorem dL_lays_214 : decode cL_lays 214 = .ok (.isub, 1) := by decide +kernel
theorem dL_lays_215 : decode cL_lays 215 = .ok (.iload 7, 2) := by decide +kernel
theorem dL_lays_217 : decode cL_lays 217 = .ok (.iconst 4, 1) := by decide +kernel
theorem dL_lays_218 : decode cL_lays 218 = .ok (.ishr, 1) := by decide +kernel
theorem dL_lays_219 : decode cL_lays 219 = .ok (.bipush 15, 2) := by decide +kernel
theorem dL_lays_221 : decode cL_lays 221 = .ok (.irem, 1) := by decide +kernel
theorem dL_lays_222 : decode cL_lays 222 = .ok (.bipush 7, 2) := by decide +kernel
theorem dL_lays_224 : decode cL_lays 224 = .ok (.isub, 1) := by decide +kernel
theorem dL_lays_225 : decode cL_lays 225 = .ok (.iload 7, 2) := by decide +kernel
theorem dL_lays_227 : decode cL_lays 227 = .ok (.bipush 8, 2) := by decide +kernel
theorem dL_lays_229 : decode cL_lays 229 = .ok (.ishr, 1) := by decide +kernel
theorem dL_lays_230 : decode cL_lays 230 = .ok (.iload_n 2, 1) := by decide +kernel
theorem dL_lays_231 : decode cL_lays 231 = .ok (.ifCond .ne 7, 3) := by decide +kernel
theorem dL_lays_234 : decode cL_lays 234 = .ok (.iconst 4, 1) := by decide +kernel
theorem dL_lays_235 : decode cL_lays 235 = .ok (.goto 5, 3) := by decide +kernel
theorem dL_lays_238 : decode cL_lays 238 = .ok (.bipush 6, 2) := by decide +kernel
theorem dL_lays_240 : decode cL_lays 240 = .ok (.irem, 1) := by decide +kernel
theorem dL_lays_241 : decode cL_lays 241 = .ok (.iload 7, 2) := by decide +kernel
theorem dL_lays_243 : decode cL_lays 243 = .ok (.bipush 12, 2) := by decide +kernel
theorem dL_lays_245 : decode cL_lays 245 = .ok (.ishr, 1) := by decide +kernel
theorem dL_lays_246 : decode cL_lays 246 = .ok (.iconst 3, 1) := by decide +kernel
theorem dL_lays_247 : decode cL_lays 247 = .ok (.iand, 1) := by decide +kernel
theorem dL_lays_248 : decode cL_lays 248 = .ok (.invokevirtual 29, 3) := by decide +kernel
theorem dL_lays_251 : decode cL_lays 251 = .ok (.istore 8, 2) := by decide +kernel
theorem dL_lays_253 : decode cL_lays 253 = .ok (.iinc 6 1, 3) := by decide +kernel
theorem dL_lays_256 : decode cL_lays 256 = .ok (.goto (-68), 3) := by decide +kernel
theorem dL_lays_259 : decode cL_lays 259 = .ok (.iload_n 3, 1) := by decide +kernel
theorem dL_lays_260 : decode cL_lays 260 = .ok (.ireturn, 1) := by decide +kernel
set_option maxRecDepth 20000 in
theorem ggL_law_X6_init : GoodIn wsL_law wsX6_init := goodIn_r _ [5, 6, 7, 8, 9, 10, 11, 12, 13, 14, 15, 16, 17, 18, 19, 20, 21, 22, 23, 24, 25, 26, 27, 28, 29, 30, 31, 32, 33, 34, 35, 36, 37, 38, 39, 40, 41, 42, 43, 44, 45, 46, 47, 48, 49, 50, 51, 52, 53, 54, 55, 56, 57, 58, 59, 60, 61, 62, 63, 64, 65, 66, 67, 68, 69, 70, 71, 72, 73, 74, 75, 76, 77, 78, 79, 80, 81, 82, 270, 271, 272, 273, 261, 262, 263, 264, 265, 266, 267, 268, 269, 274, 275, 276, 277, 278, 279, 280, 281, 282, 283, 284, 285, 286, 287, 288, 289, 290, 291, 292, 293, 294, 295] (by decide +kernel) (by decide +kernel)
set_option maxRecDepth 20000 in
theorem gL_law_X6_init : GoodIn wsL_law (wsX6_init) := ggL_law_X6_init
set_option maxRecDepth 20000 in
theorem ggL_law_L_lays : GoodIn wsL_law wsL_lays := goodIn_r _ [86, 87, 88, 85, 89, 90, 91, 92, 93, 94, 2, 95, 96, 12, 16, 26, 30, 97, 98, 99, 100, 101, 102, 103, 11, 104, 38, 39, 41, 42, 105, 106, 107, 108, 72, 73, 74, 75, 76, 77, 78, 15, 79, 47, 80, 81, 82, 109, 110, 111, 25, 112, 113, 114, 115, 116, 29, 117, 118, 119, 120, 121, 122, 123, 124, 125, 126, 127, 128, 129, 130, 131, 48, 132, 133, 134, 135, 136, 137, 138, 139, 140, 141, 142, 143, 144, 145, 146, 147, 148, 149, 150, 151, 152, 18, 153, 154, 155, 156, 157, 158, 20, 159, 160, 161, 162, 163, 261, 262, 263, 264, 265, 266, 267, 268, 269, 270, 271, 272, 273, 274, 275, 276, 281, 282, 283, 284, 285, 286, 287, 288, 289, 290, 291, 292, 277, 278, 279, 280] (by decide +kernel) (by decide +kernel)
set_option maxRecDepth 20000 in
theorem gL_law_L_lays : GoodIn wsL_law (va_wsS RL 34 yL_lays wsL_lays) := goodIn_app (goodIn_of _ (by decide +kernel)) ggL_law_L_lays
set_option maxRecDepth 20000 in
theorem ggL_law_X6_digest : GoodIn wsL_law wsX6_digest := goodIn_r _ [167, 168, 169, 12, 170, 96, 18, 171, 172, 173, 174, 261, 262, 263, 264, 265, 266, 267, 268, 269, 270, 271, 272, 273, 277, 278, 279, 280] (by decide +kernel) (by decide +kernel)
set_option maxRecDepth 20000 in
theorem gL_law_X6_digest : GoodIn wsL_law (wsV RL 38 RX6 yX6_digest wsX6_digest) := goodIn_app (goodIn_of _ (by decide +kernel)) ggL_law_X6_digest
set_option maxRecDepth 20000 in
theorem ggL_law_L_cell : GoodIn wsL_law wsL_cell := goodIn_r _ [89, 90, 91] (by decide +kernel) (by decide +kernel)
set_option maxRecDepth 20000 in
theorem gL_law_L_cell : GoodIn wsL_law (va_wsS RL 9 yL_cell wsL_cell) := goodIn_app (goodIn_of _ (by decide +kernel)) ggL_law_L_cell
set_option maxRecDepth 20000 in
theorem ggL_law_X6_run : GoodIn wsL_law wsX6_run := goodIn_r _ [178, 98, 99, 2, 100, 179, 180, 181, 182, 96, 22, 18, 171, 172, 97, 30, 183, 184, 185, 153, 154, 155, 186, 187, 188, 189, 12, 170, 173, 16, 190, 174, 136, 191, 192, 193, 194, 11, 195, 196, 73, 74, 75, 38, 197, 198, 199, 200, 201, 202, 203, 204, 156, 157, 158, 20, 159, 160, 161, 162, 163, 205, 206, 207, 208, 209, 210, 211, 212, 213, 214, 215, 29, 216, 118, 66, 217, 218, 219, 220, 221, 26, 222, 223, 224, 225, 226, 227, 228, 25, 229, 113, 55, 56, 57, 58, 230, 231, 232, 233, 234, 235, 236, 237, 144, 145, 146, 147, 148, 261, 262, 263, 264, 265, 266, 267, 268, 269, 277, 278, 279, 280, 270, 271, 272, 273, 274, 275, 276, 286, 287, 288, 289, 290, 291, 292, 281, 282, 283, 284, 285] (by decide +kernel) (by decide +kernel)
set_option maxRecDepth 20000 in
theorem gL_law_X6_run : GoodIn wsL_law (wsV RL 42 RX6 yX6_run wsX6_run) := goodIn_app (goodIn_of _ (by decide +kernel)) ggL_law_X6_run
set_option maxRecDepth 20000 in
theorem ggL_law_X6_time : GoodIn wsL_law wsX6_time := goodIn_r _ [241, 97, 261, 262, 263, 264, 265, 266, 267, 268, 269] (by decide +kernel) (by decide +kernel)
set_option maxRecDepth 20000 in
theorem gL_law_X6_time : GoodIn wsL_law (wsV RL 45 RX6 yX6_time wsX6_time) := goodIn_app (goodIn_of _ (by decide +kernel)) ggL_law_X6_time
set_option maxRecDepth 20000 in
theorem ggL_law_X6_count : GoodIn wsL_law wsX6_count := goodIn_r _ [245, 96, 246, 12, 170, 26, 247, 191, 136, 248, 249, 250, 2, 251, 98, 99, 100, 261, 262, 263, 264, 265, 266, 267, 268, 269, 270, 271, 272, 273, 281, 282, 283, 284, 285] (by decide +kernel) (by decide +kernel)
set_option maxRecDepth 20000 in
theorem gL_law_X6_count : GoodIn wsL_law (wsV RL 49 RX6 yX6_count wsX6_count) := goodIn_app (goodIn_of _ (by decide +kernel)) ggL_law_X6_count
set_option maxRecDepth 20000 in
theorem ggL_law_X6_told : GoodIn wsL_law wsX6_told := goodIn_r _ [255, 96, 18, 171, 172, 173, 174, 98, 99, 2, 100, 261, 262, 263, 264, 265, 266, 267, 268, 269, 277, 278, 279, 280] (by decide +kernel) (by decide +kernel)
set_option maxRecDepth 20000 in
theorem gL_law_X6_told : GoodIn wsL_law (wsV RL 52 RX6 yX6_told wsX6_told) := goodIn_app (goodIn_of _ (by decide +kernel)) ggL_law_X6_told
set_option maxRecDepth 20000 in
theorem ggL_law_X6_visits : GoodIn wsL_law wsX6_visits := goodIn_r _ [259, 260, 12, 191, 183, 184, 2, 185, 153, 154, 155, 261, 262, 263, 264, 265, 266, 267, 268, 269, 270, 271, 272, 273] (by decide +kernel) (by decide +kernel)
set_option maxRecDepth 20000 in
theorem gL_law_X6_visits : GoodIn wsL_law (wsV RL 55 RX6 yX6_visits wsX6_visits) := goodIn_app (goodIn_of _ (by decide +kernel)) ggL_law_X6_visits
theorem dL_law_0 : decode cL_law 0 = .ok (.new 16, 3) := by decide +kernel
theorem dL_law_3 : decode cL_law 3 = .ok (.dup, 1) := by decide +kernel
theorem dL_law_4 : decode cL_law 4 = .ok (.invokespecial 33, 3) := by decide +kernel
theorem dL_law_7 : decode cL_law 7 = .ok (.astore_n 1, 1) := by decide +kernel
theorem dL_law_8 : decode cL_law 8 = .ok (.aload_n 1, 1) := by decide +kernel
theorem dL_law_9 : decode cL_law 9 = .ok (.aload_n 0, 1) := by decide +kernel
theorem dL_law_10 : decode cL_law 10 = .ok (.invokestatic 34, 3) := by decide +kernel
theorem dL_law_13 : decode cL_law 13 = .ok (.istore_n 2, 1) := by decide +kernel
theorem dL_law_14 : decode cL_law 14 = .ok (.iload_n 2, 1) := by decide +kernel
theorem dL_law_15 : decode cL_law 15 = .ok (.iconst 1, 1) := by decide +kernel
theorem dL_law_16 : decode cL_law 16 = .ok (.if_icmp .le 7, 3) := by decide +kernel
theorem dL_law_19 : decode cL_law 19 = .ok (.iconst 1, 1) := by decide +kernel
theorem dL_law_20 : decode cL_law 20 = .ok (.goto 4, 3) := by decide +kernel
theorem dL_law_23 : decode cL_law 23 = .ok (.iconst 0, 1) := by decide +kernel
theorem dL_law_24 : decode cL_law 24 = .ok (.istore_n 3, 1) := by decide +kernel
theorem dL_law_25 : decode cL_law 25 = .ok (.new 16, 3) := by decide +kernel
theorem dL_law_28 : decode cL_law 28 = .ok (.dup, 1) := by decide +kernel
theorem dL_law_29 : decode cL_law 29 = .ok (.invokespecial 33, 3) := by decide +kernel
theorem dL_law_32 : decode cL_law 32 = .ok (.astore 4, 2) := by decide +kernel
theorem dL_law_34 : decode cL_law 34 = .ok (.iload_n 3, 1) := by decide +kernel
theorem dL_law_35 : decode cL_law 35 = .ok (.ifCond .eq 30, 3) := by decide +kernel
theorem dL_law_38 : decode cL_law 38 = .ok (.aload 4, 2) := by decide +kernel
theorem dL_law_40 : decode cL_law 40 = .ok (.aload_n 0, 1) := by decide +kernel
theorem dL_law_41 : decode cL_law 41 = .ok (.invokestatic 34, 3) := by decide +kernel
theorem dL_law_44 : decode cL_law 44 = .ok (.iload_n 2, 1) := by decide +kernel
theorem dL_law_45 : decode cL_law 45 = .ok (.if_icmp .ne 20, 3) := by decide +kernel
theorem dL_law_48 : decode cL_law 48 = .ok (.aload 4, 2) := by decide +kernel
theorem dL_law_50 : decode cL_law 50 = .ok (.invokevirtual 38, 3) := by decide +kernel
theorem dL_law_53 : decode cL_law 53 = .ok (.aload_n 1, 1) := by decide +kernel
theorem dL_law_54 : decode cL_law 54 = .ok (.invokevirtual 38, 3) := by decide +kernel
theorem dL_law_57 : decode cL_law 57 = .ok (.lcmp, 1) := by decide +kernel
theorem dL_law_58 : decode cL_law 58 = .ok (.ifCond .ne 7, 3) := by decide +kernel
theorem dL_law_61 : decode cL_law 61 = .ok (.iconst 1, 1) := by decide +kernel
theorem dL_law_62 : decode cL_law 62 = .ok (.goto 4, 3) := by decide +kernel
theorem dL_law_65 : decode cL_law 65 = .ok (.iconst 0, 1) := by decide +kernel
theorem dL_law_66 : decode cL_law 66 = .ok (.istore_n 3, 1) := by decide +kernel
theorem dL_law_67 : decode cL_law 67 = .ok (.iconst 0, 1) := by decide +kernel
theorem dL_law_68 : decode cL_law 68 = .ok (.istore 5, 2) := by decide +kernel
theorem dL_law_70 : decode cL_law 70 = .ok (.iconst 0, 1) := by decide +kernel
theorem dL_law_71 : decode cL_law 71 = .ok (.istore 6, 2) := by decide +kernel
theorem dL_law_73 : decode cL_law 73 = .ok (.iload 6, 2) := by decide +kernel
theorem dL_law_75 : decode cL_law 75 = .ok (.bipush 9, 2) := by decide +kernel
theorem dL_law_77 : decode cL_law 77 = .ok (.if_icmp .ge 415, 3) := by decide +kernel
theorem dL_law_80 : decode cL_law 80 = .ok (.iload_n 3, 1) := by decide +kernel
theorem dL_law_81 : decode cL_law 81 = .ok (.ifCond .eq 411, 3) := by decide +kernel
theorem dL_law_84 : decode cL_law 84 = .ok (.aload_n 0, 1) := by decide +kernel
theorem dL_law_85 : decode cL_law 85 = .ok (.bipush 30, 2) := by decide +kernel
theorem dL_law_87 : decode cL_law 87 = .ok (.iload 6, 2) := by decide +kernel
theorem dL_law_89 : decode cL_law 89 = .ok (.iadd, 1) := by decide +kernel
theorem dL_law_90 : decode cL_law 90 = .ok (.invokestatic 9, 3) := by decide +kernel
theorem dL_law_93 : decode cL_law 93 = .ok (.istore 7, 2) := by decide +kernel
theorem dL_law_95 : decode cL_law 95 = .ok (.iload 7, 2) := by decide +kernel
theorem dL_law_97 : decode cL_law 97 = .ok (.iconst 1, 1) := by decide +kernel
theorem dL_law_98 : decode cL_law 98 = .ok (.iand, 1) := by decide +kernel
theorem dL_law_99 : decode cL_law 99 = .ok (.ifCond .ne 16, 3) := by decide +kernel
theorem dL_law_102 : decode cL_law 102 = .ok (.iconst 1, 1) := by decide +kernel
theorem dL_law_103 : decode cL_law 103 = .ok (.iload 7, 2) := by decide +kernel
theorem dL_law_105 : decode cL_law 105 = .ok (.iconst 1, 1) := by decide +kernel
theorem dL_law_106 : decode cL_law 106 = .ok (.ishr, 1) := by decide +kernel
theorem dL_law_107 : decode cL_law 107 = .ok (.sipush 160, 3) := by decide +kernel
theorem dL_law_110 : decode cL_law 110 = .ok (.irem, 1) := by decide +kernel
theorem dL_law_111 : decode cL_law 111 = .ok (.iadd, 1) := by decide +kernel
theorem dL_law_112 : decode cL_law 112 = .ok (.goto 13, 3) := by decide +kernel
theorem dL_law_115 : decode cL_law 115 = .ok (.iconst (-1), 1) := by decide +kernel
theorem dL_law_116 : decode cL_law 116 = .ok (.iload 7, 2) := by decide +kernel
theorem dL_law_118 : decode cL_law 118 = .ok (.iconst 1, 1) := by decide +kernel
theorem dL_law_119 : decode cL_law 119 = .ok (.ishr, 1) := by decide +kernel
theorem dL_law_120 : decode cL_law 120 = .ok (.sipush 160, 3) := by decide +kernel
theorem dL_law_123 : decode cL_law 123 = .ok (.irem, 1) := by decide +kernel
theorem dL_law_124 : decode cL_law 124 = .ok (.isub, 1) := by decide +kernel
theorem dL_law_125 : decode cL_law 125 = .ok (.istore 8, 2) := by decide +kernel
theorem dL_law_127 : decode cL_law 127 = .ok (.aload_n 1, 1) := by decide +kernel
theorem dL_law_128 : decode cL_law 128 = .ok (.iload 8, 2) := by decide +kernel
theorem dL_law_130 : decode cL_law 130 = .ok (.invokevirtual 42, 3) := by decide +kernel
theorem dL_law_133 : decode cL_law 133 = .ok (.istore 9, 2) := by decide +kernel
theorem dL_law_135 : decode cL_law 135 = .ok (.iload 9, 2) := by decide +kernel
theorem dL_law_137 : decode cL_law 137 = .ok (.bipush (-4), 2) := by decide +kernel
theorem dL_law_139 : decode cL_law 139 = .ok (.if_icmp .eq 26, 3) := by decide +kernel
theorem dL_law_142 : decode cL_law 142 = .ok (.iload 9, 2) := by decide +kernel
theorem dL_law_144 : decode cL_law 144 = .ok (.ifCond .le 25, 3) := by decide +kernel
theorem dL_law_147 : decode cL_law 147 = .ok (.iload 9, 2) := by decide +kernel
theorem dL_law_149 : decode cL_law 149 = .ok (.iload 8, 2) := by decide +kernel
theorem dL_law_151 : decode cL_law 151 = .ok (.ifCond .ge 9, 3) := by decide +kernel
theorem dL_law_154 : decode cL_law 154 = .ok (.iload 8, 2) := by decide +kernel
theorem dL_law_156 : decode cL_law 156 = .ok (.ineg, 1) := by decide +kernel
theorem dL_law_157 : decode cL_law 157 = .ok (.goto 5, 3) := by decide +kernel
theorem dL_law_160 : decode cL_law 160 = .ok (.iload 8, 2) := by decide +kernel
theorem dL_law_162 : decode cL_law 162 = .ok (.if_icmp .gt 7, 3) := by decide +kernel
theorem dL_law_165 : decode cL_law 165 = .ok (.iconst 1, 1) := by decide +kernel
theorem dL_law_166 : decode cL_law 166 = .ok (.goto 4, 3) := by decide +kernel
theorem dL_law_169 : decode cL_law 169 = .ok (.iconst 0, 1) := by decide +kernel
theorem dL_law_170 : decode cL_law 170 = .ok (.istore_n 3, 1) := by decide +kernel
theorem dL_law_171 : decode cL_law 171 = .ok (.iload 5, 2) := by decide +kernel
theorem dL_law_173 : decode cL_law 173 = .ok (.iload 9, 2) := by decide +kernel
theorem dL_law_175 : decode cL_law 175 = .ok (.ifCond .ge 7, 3) := by decide +kernel
theorem dL_law_178 : decode cL_law 178 = .ok (.iconst 0, 1) := by decide +kernel
theorem dL_law_179 : decode cL_law 179 = .ok (.goto 16, 3) := by decide +kernel
theorem dL_law_182 : decode cL_law 182 = .ok (.iload 8, 2) := by decide +kernel
theorem dL_law_184 : decode cL_law 184 = .ok (.ifCond .ge 9, 3) := by decide +kernel
theorem dL_law_187 : decode cL_law 187 = .ok (.iload 9, 2) := by decide +kernel
theorem dL_law_189 : decode cL_law 189 = .ok (.ineg, 1) := by decide +kernel
theorem dL_law_190 : decode cL_law 190 = .ok (.goto 5, 3) := by decide +kernel
theorem dL_law_193 : decode cL_law 193 = .ok (.iload 9, 2) := by decide +kernel
theorem dL_law_195 : decode cL_law 195 = .ok (.iadd, 1) := by decide +kernel
theorem dL_law_196 : decode cL_law 196 = .ok (.istore 5, 2) := by decide +kernel
theorem dL_law_198 : decode cL_law 198 = .ok (.iload_n 3, 1) := by decide +kernel
theorem dL_law_199 : decode cL_law 199 = .ok (.ifCond .eq 16, 3) := by decide +kernel
theorem dL_law_202 : decode cL_law 202 = .ok (.aload_n 1, 1) := by decide +kernel
theorem dL_law_203 : decode cL_law 203 = .ok (.invokevirtual 45, 3) := by decide +kernel
theorem dL_law_206 : decode cL_law 206 = .ok (.iload 5, 2) := by decide +kernel
theorem dL_law_208 : decode cL_law 208 = .ok (.if_icmp .ne 7, 3) := by decide +kernel
theorem dL_law_211 : decode cL_law 211 = .ok (.iconst 1, 1) := by decide +kernel
theorem dL_law_212 : decode cL_law 212 = .ok (.goto 4, 3) := by decide +kernel
theorem dL_law_215 : decode cL_law 215 = .ok (.iconst 0, 1) := by decide +kernel
theorem dL_law_216 : decode cL_law 216 = .ok (.istore_n 3, 1) := by decide +kernel
theorem dL_law_217 : decode cL_law 217 = .ok (.iload 5, 2) := by decide +kernel
theorem dL_law_219 : decode cL_law 219 = .ok (.aload 4, 2) := by decide +kernel
theorem dL_law_221 : decode cL_law 221 = .ok (.invokevirtual 45, 3) := by decide +kernel
theorem dL_law_224 : decode cL_law 224 = .ok (.isub, 1) := by decide +kernel
theorem dL_law_225 : decode cL_law 225 = .ok (.istore 10, 2) := by decide +kernel
theorem dL_law_227 : decode cL_law 227 = .ok (.iload_n 3, 1) := by decide +kernel
theorem dL_law_228 : decode cL_law 228 = .ok (.ifCond .eq 58, 3) := by decide +kernel
theorem dL_law_231 : decode cL_law 231 = .ok (.iload 10, 2) := by decide +kernel
theorem dL_law_233 : decode cL_law 233 = .ok (.ifCond .eq 26, 3) := by decide +kernel
theorem dL_law_236 : decode cL_law 236 = .ok (.aload 4, 2) := by decide +kernel
theorem dL_law_238 : decode cL_law 238 = .ok (.iload 10, 2) := by decide +kernel
theorem dL_law_240 : decode cL_law 240 = .ok (.invokevirtual 42, 3) := by decide +kernel
theorem dL_law_243 : decode cL_law 243 = .ok (.iload 10, 2) := by decide +kernel
theorem dL_law_245 : decode cL_law 245 = .ok (.ifCond .ge 9, 3) := by decide +kernel
theorem dL_law_248 : decode cL_law 248 = .ok (.iload 10, 2) := by decide +kernel
theorem dL_law_250 : decode cL_law 250 = .ok (.ineg, 1) := by decide +kernel
theorem dL_law_251 : decode cL_law 251 = .ok (.goto 5, 3) := by decide +kernel
theorem dL_law_254 : decode cL_law 254 = .ok (.iload 10, 2) := by decide +kernel
theorem dL_law_256 : decode cL_law 256 = .ok (.if_icmp .ne 30, 3) := by decide +kernel
theorem dL_law_259 : decode cL_law 259 = .ok (.aload 4, 2) := by decide +kernel
theorem dL_law_261 : decode cL_law 261 = .ok (.invokevirtual 45, 3) := by decide +kernel
theorem dL_law_264 : decode cL_law 264 = .ok (.iload 5, 2) := by decide +kernel
theorem dL_law_266 : decode cL_law 266 = .ok (.if_icmp .ne 20, 3) := by decide +kernel
theorem dL_law_269 : decode cL_law 269 = .ok (.aload 4, 2) := by decide +kernel
theorem dL_law_271 : decode cL_law 271 = .ok (.invokevirtual 38, 3) := by decide +kernel
theorem dL_law_274 : decode cL_law 274 = .ok (.aload_n 1, 1) := by decide +kernel
theorem dL_law_275 : decode cL_law 275 = .ok (.invokevirtual 38, 3) := by decide +kernel
theorem dL_law_278 : decode cL_law 278 = .ok (.lcmp, 1) := by decide +kernel
theorem dL_law_279 : decode cL_law 279 = .ok (.ifCond .ne 7, 3) := by decide +kernel
theorem dL_law_282 : decode cL_law 282 = .ok (.iconst 1, 1) := by decide +kernel
theorem dL_law_283 : decode cL_law 283 = .ok (.goto 4, 3) := by decide +kernel
theorem dL_law_286 : decode cL_law 286 = .ok (.iconst 0, 1) := by decide +kernel
theorem dL_law_287 : decode cL_law 287 = .ok (.istore_n 3, 1) := by decide +kernel
theorem dL_law_288 : decode cL_law 288 = .ok (.iconst 0, 1) := by decide +kernel
theorem dL_law_289 : decode cL_law 289 = .ok (.istore 11, 2) := by decide +kernel
theorem dL_law_291 : decode cL_law 291 = .ok (.iload 11, 2) := by decide +kernel
theorem dL_law_293 : decode cL_law 293 = .ok (.aload_n 1, 1) := by decide +kernel
theorem dL_law_294 : decode cL_law 294 = .ok (.iconst 0, 1) := by decide +kernel
theorem dL_law_295 : decode cL_law 295 = .ok (.invokevirtual 49, 3) := by decide +kernel
theorem dL_law_298 : decode cL_law 298 = .ok (.if_icmp .ge 113, 3) := by decide +kernel
theorem dL_law_301 : decode cL_law 301 = .ok (.iload_n 3, 1) := by decide +kernel
theorem dL_law_302 : decode cL_law 302 = .ok (.ifCond .eq 109, 3) := by decide +kernel
theorem dL_law_305 : decode cL_law 305 = .ok (.aload_n 1, 1) := by decide +kernel
theorem dL_law_306 : decode cL_law 306 = .ok (.iload 11, 2) := by decide +kernel
theorem dL_law_308 : decode cL_law 308 = .ok (.iconst 0, 1) := by decide +kernel
theorem dL_law_309 : decode cL_law 309 = .ok (.invokevirtual 52, 3) := by decide +kernel
theorem dL_law_312 : decode cL_law 312 = .ok (.aload 4, 2) := by decide +kernel
theorem dL_law_314 : decode cL_law 314 = .ok (.iload 11, 2) := by decide +kernel
theorem dL_law_316 : decode cL_law 316 = .ok (.iconst 0, 1) := by decide +kernel
theorem dL_law_317 : decode cL_law 317 = .ok (.invokevirtual 52, 3) := by decide +kernel
theorem dL_law_320 : decode cL_law 320 = .ok (.if_icmp .ne 83, 3) := by decide +kernel
theorem dL_law_323 : decode cL_law 323 = .ok (.aload_n 1, 1) := by decide +kernel
theorem dL_law_324 : decode cL_law 324 = .ok (.iload 11, 2) := by decide +kernel
theorem dL_law_326 : decode cL_law 326 = .ok (.iconst 1, 1) := by decide +kernel
theorem dL_law_327 : decode cL_law 327 = .ok (.invokevirtual 52, 3) := by decide +kernel
theorem dL_law_330 : decode cL_law 330 = .ok (.aload 4, 2) := by decide +kernel
theorem dL_law_332 : decode cL_law 332 = .ok (.iload 11, 2) := by decide +kernel
theorem dL_law_334 : decode cL_law 334 = .ok (.iconst 1, 1) := by decide +kernel
theorem dL_law_335 : decode cL_law 335 = .ok (.invokevirtual 52, 3) := by decide +kernel
theorem dL_law_338 : decode cL_law 338 = .ok (.if_icmp .ne 65, 3) := by decide +kernel
theorem dL_law_341 : decode cL_law 341 = .ok (.aload_n 1, 1) := by decide +kernel
theorem dL_law_342 : decode cL_law 342 = .ok (.iload 11, 2) := by decide +kernel
theorem dL_law_344 : decode cL_law 344 = .ok (.iconst 2, 1) := by decide +kernel
theorem dL_law_345 : decode cL_law 345 = .ok (.invokevirtual 52, 3) := by decide +kernel
theorem dL_law_348 : decode cL_law 348 = .ok (.aload 4, 2) := by decide +kernel
theorem dL_law_350 : decode cL_law 350 = .ok (.iload 11, 2) := by decide +kernel
theorem dL_law_352 : decode cL_law 352 = .ok (.iconst 2, 1) := by decide +kernel
theorem dL_law_353 : decode cL_law 353 = .ok (.invokevirtual 52, 3) := by decide +kernel
theorem dL_law_356 : decode cL_law 356 = .ok (.if_icmp .ne 47, 3) := by decide +kernel
theorem dL_law_359 : decode cL_law 359 = .ok (.aload_n 1, 1) := by decide +kernel
theorem dL_law_360 : decode cL_law 360 = .ok (.aload_n 1, 1) := by decide +kernel
theorem dL_law_361 : decode cL_law 361 = .ok (.iload 11, 2) := by decide +kernel
theorem dL_law_363 : decode cL_law 363 = .ok (.iconst 0, 1) := by decide +kernel
theorem dL_law_364 : decode cL_law 364 = .ok (.invokevirtual 52, 3) := by decide +kernel
theorem dL_law_367 : decode cL_law 367 = .ok (.aload_n 1, 1) := by decide +kernel
theorem dL_law_368 : decode cL_law 368 = .ok (.iload 11, 2) := by decide +kernel
theorem dL_law_370 : decode cL_law 370 = .ok (.iconst 1, 1) := by decide +kernel
theorem dL_law_371 : decode cL_law 371 = .ok (.invokevirtual 52, 3) := by decide +kernel
theorem dL_law_374 : decode cL_law 374 = .ok (.invokevirtual 55, 3) := by decide +kernel
theorem dL_law_377 : decode cL_law 377 = .ok (.aload 4, 2) := by decide +kernel
theorem dL_law_379 : decode cL_law 379 = .ok (.aload_n 1, 1) := by decide +kernel
theorem dL_law_380 : decode cL_law 380 = .ok (.iload 11, 2) := by decide +kernel
theorem dL_law_382 : decode cL_law 382 = .ok (.iconst 0, 1) := by decide +kernel
theorem dL_law_383 : decode cL_law 383 = .ok (.invokevirtual 52, 3) := by decide +kernel
theorem dL_law_386 : decode cL_law 386 = .ok (.aload_n 1, 1) := by decide +kernel
theorem dL_law_387 : decode cL_law 387 = .ok (.iload 11, 2) := by decide +kernel
theorem dL_law_389 : decode cL_law 389 = .ok (.iconst 1, 1) := by decide +kernel
theorem dL_law_390 : decode cL_law 390 = .ok (.invokevirtual 52, 3) := by decide +kernel
theorem dL_law_393 : decode cL_law 393 = .ok (.invokevirtual 55, 3) := by decide +kernel
theorem dL_law_396 : decode cL_law 396 = .ok (.if_icmp .ne 7, 3) := by decide +kernel
theorem dL_law_399 : decode cL_law 399 = .ok (.iconst 1, 1) := by decide +kernel
theorem dL_law_400 : decode cL_law 400 = .ok (.goto 4, 3) := by decide +kernel
theorem dL_law_403 : decode cL_law 403 = .ok (.iconst 0, 1) := by decide +kernel
theorem dL_law_404 : decode cL_law 404 = .ok (.istore_n 3, 1) := by decide +kernel
theorem dL_law_405 : decode cL_law 405 = .ok (.iinc 11 1, 3) := by decide +kernel
theorem dL_law_408 : decode cL_law 408 = .ok (.goto (-117), 3) := by decide +kernel
theorem dL_law_411 : decode cL_law 411 = .ok (.iload_n 3, 1) := by decide +kernel
theorem dL_law_412 : decode cL_law 412 = .ok (.ifCond .eq 72, 3) := by decide +kernel
theorem dL_law_415 : decode cL_law 415 = .ok (.aload_n 1, 1) := by decide +kernel
theorem dL_law_416 : decode cL_law 416 = .ok (.iconst 3, 1) := by decide +kernel
theorem dL_law_417 : decode cL_law 417 = .ok (.invokevirtual 49, 3) := by decide +kernel
theorem dL_law_420 : decode cL_law 420 = .ok (.aload 4, 2) := by decide +kernel
theorem dL_law_422 : decode cL_law 422 = .ok (.iconst 3, 1) := by decide +kernel
theorem dL_law_423 : decode cL_law 423 = .ok (.invokevirtual 49, 3) := by decide +kernel
theorem dL_law_426 : decode cL_law 426 = .ok (.if_icmp .ne 58, 3) := by decide +kernel
theorem dL_law_429 : decode cL_law 429 = .ok (.iload 9, 2) := by decide +kernel
theorem dL_law_431 : decode cL_law 431 = .ok (.ifCond .lt 49, 3) := by decide +kernel
theorem dL_law_434 : decode cL_law 434 = .ok (.iload 9, 2) := by decide +kernel
theorem dL_law_436 : decode cL_law 436 = .ok (.iload 8, 2) := by decide +kernel
theorem dL_law_438 : decode cL_law 438 = .ok (.ifCond .ge 9, 3) := by decide +kernel
theorem dL_law_441 : decode cL_law 441 = .ok (.iload 8, 2) := by decide +kernel
theorem dL_law_443 : decode cL_law 443 = .ok (.ineg, 1) := by decide +kernel
theorem dL_law_444 : decode cL_law 444 = .ok (.goto 5, 3) := by decide +kernel
theorem dL_law_447 : decode cL_law 447 = .ok (.iload 8, 2) := by decide +kernel
theorem dL_law_449 : decode cL_law 449 = .ok (.if_icmp .eq 31, 3) := by decide +kernel
theorem dL_law_452 : decode cL_law 452 = .ok (.aload_n 1, 1) := by decide +kernel
theorem dL_law_453 : decode cL_law 453 = .ok (.iload 8, 2) := by decide +kernel
theorem dL_law_455 : decode cL_law 455 = .ok (.ifCond .ge 7, 3) := by decide +kernel
theorem dL_law_458 : decode cL_law 458 = .ok (.iconst (-1), 1) := by decide +kernel
theorem dL_law_459 : decode cL_law 459 = .ok (.goto 4, 3) := by decide +kernel
theorem dL_law_462 : decode cL_law 462 = .ok (.iconst 1, 1) := by decide +kernel
theorem dL_law_463 : decode cL_law 463 = .ok (.invokevirtual 42, 3) := by decide +kernel
theorem dL_law_466 : decode cL_law 466 = .ok (.bipush (-4), 2) := by decide +kernel
theorem dL_law_468 : decode cL_law 468 = .ok (.if_icmp .ne 16, 3) := by decide +kernel
theorem dL_law_471 : decode cL_law 471 = .ok (.aload_n 1, 1) := by decide +kernel
theorem dL_law_472 : decode cL_law 472 = .ok (.invokevirtual 45, 3) := by decide +kernel
theorem dL_law_475 : decode cL_law 475 = .ok (.iload 5, 2) := by decide +kernel
theorem dL_law_477 : decode cL_law 477 = .ok (.if_icmp .ne 7, 3) := by decide +kernel
theorem dL_law_480 : decode cL_law 480 = .ok (.iconst 1, 1) := by decide +kernel
theorem dL_law_481 : decode cL_law 481 = .ok (.goto 4, 3) := by decide +kernel
theorem dL_law_484 : decode cL_law 484 = .ok (.iconst 0, 1) := by decide +kernel
theorem dL_law_485 : decode cL_law 485 = .ok (.istore_n 3, 1) := by decide +kernel
theorem dL_law_486 : decode cL_law 486 = .ok (.iinc 6 1, 3) := by decide +kernel
theorem dL_law_489 : decode cL_law 489 = .ok (.goto (-416), 3) := by decide +kernel
theorem dL_law_492 : decode cL_law 492 = .ok (.aload_n 1, 1) := by decide +kernel
theorem dL_law_493 : decode cL_law 493 = .ok (.invokevirtual 38, 3) := by decide +kernel
theorem dL_law_496 : decode cL_law 496 = .ok (.lstore 6, 2) := by decide +kernel
theorem dL_law_498 : decode cL_law 498 = .ok (.iload_n 3, 1) := by decide +kernel
theorem dL_law_499 : decode cL_law 499 = .ok (.ifCond .eq 50, 3) := by decide +kernel
theorem dL_law_502 : decode cL_law 502 = .ok (.iload 5, 2) := by decide +kernel
theorem dL_law_504 : decode cL_law 504 = .ok (.ifCond .eq 26, 3) := by decide +kernel
theorem dL_law_507 : decode cL_law 507 = .ok (.aload_n 1, 1) := by decide +kernel
theorem dL_law_508 : decode cL_law 508 = .ok (.iload 5, 2) := by decide +kernel
theorem dL_law_510 : decode cL_law 510 = .ok (.ineg, 1) := by decide +kernel
theorem dL_law_511 : decode cL_law 511 = .ok (.invokevirtual 42, 3) := by decide +kernel
theorem dL_law_514 : decode cL_law 514 = .ok (.iload 5, 2) := by decide +kernel
theorem dL_law_516 : decode cL_law 516 = .ok (.ifCond .ge 9, 3) := by decide +kernel
theorem dL_law_519 : decode cL_law 519 = .ok (.iload 5, 2) := by decide +kernel
theorem dL_law_521 : decode cL_law 521 = .ok (.ineg, 1) := by decide +kernel
theorem dL_law_522 : decode cL_law 522 = .ok (.goto 5, 3) := by decide +kernel
theorem dL_law_525 : decode cL_law 525 = .ok (.iload 5, 2) := by decide +kernel
theorem dL_law_527 : decode cL_law 527 = .ok (.if_icmp .ne 22, 3) := by decide +kernel
theorem dL_law_530 : decode cL_law 530 = .ok (.aload_n 1, 1) := by decide +kernel
theorem dL_law_531 : decode cL_law 531 = .ok (.invokevirtual 45, 3) := by decide +kernel
theorem dL_law_534 : decode cL_law 534 = .ok (.ifCond .ne 15, 3) := by decide +kernel
theorem dL_law_537 : decode cL_law 537 = .ok (.aload_n 1, 1) := by decide +kernel
theorem dL_law_538 : decode cL_law 538 = .ok (.iconst 1, 1) := by decide +kernel
theorem dL_law_539 : decode cL_law 539 = .ok (.invokevirtual 49, 3) := by decide +kernel
theorem dL_law_542 : decode cL_law 542 = .ok (.ifCond .ne 7, 3) := by decide +kernel
theorem dL_law_545 : decode cL_law 545 = .ok (.iconst 1, 1) := by decide +kernel
theorem dL_law_546 : decode cL_law 546 = .ok (.goto 4, 3) := by decide +kernel
theorem dL_law_549 : decode cL_law 549 = .ok (.iconst 0, 1) := by decide +kernel
theorem dL_law_550 : decode cL_law 550 = .ok (.istore_n 3, 1) := by decide +kernel
theorem dL_law_551 : decode cL_law 551 = .ok (.iload_n 3, 1) := by decide +kernel
theorem dL_law_552 : decode cL_law 552 = .ok (.ifCond .eq 44, 3) := by decide +kernel
theorem dL_law_555 : decode cL_law 555 = .ok (.iload 5, 2) := by decide +kernel
theorem dL_law_557 : decode cL_law 557 = .ok (.ifCond .eq 25, 3) := by decide +kernel
theorem dL_law_560 : decode cL_law 560 = .ok (.aload_n 1, 1) := by decide +kernel
theorem dL_law_561 : decode cL_law 561 = .ok (.iload 5, 2) := by decide +kernel
theorem dL_law_563 : decode cL_law 563 = .ok (.invokevirtual 42, 3) := by decide +kernel
theorem dL_law_566 : decode cL_law 566 = .ok (.iload 5, 2) := by decide +kernel
theorem dL_law_568 : decode cL_law 568 = .ok (.ifCond .ge 9, 3) := by decide +kernel
theorem dL_law_571 : decode cL_law 571 = .ok (.iload 5, 2) := by decide +kernel
theorem dL_law_573 : decode cL_law 573 = .ok (.ineg, 1) := by decide +kernel
theorem dL_law_574 : decode cL_law 574 = .ok (.goto 5, 3) := by decide +kernel
theorem dL_law_577 : decode cL_law 577 = .ok (.iload 5, 2) := by decide +kernel
theorem dL_law_579 : decode cL_law 579 = .ok (.if_icmp .ne 17, 3) := by decide +kernel
theorem dL_law_582 : decode cL_law 582 = .ok (.aload_n 1, 1) := by decide +kernel
theorem dL_law_583 : decode cL_law 583 = .ok (.invokevirtual 38, 3) := by decide +kernel
theorem dL_law_586 : decode cL_law 586 = .ok (.lload 6, 2) := by decide +kernel
theorem dL_law_588 : decode cL_law 588 = .ok (.lcmp, 1) := by decide +kernel
theorem dL_law_589 : decode cL_law 589 = .ok (.ifCond .ne 7, 3) := by decide +kernel
theorem dL_law_592 : decode cL_law 592 = .ok (.iconst 1, 1) := by decide +kernel
theorem dL_law_593 : decode cL_law 593 = .ok (.goto 4, 3) := by decide +kernel
theorem dL_law_596 : decode cL_law 596 = .ok (.iconst 0, 1) := by decide +kernel
theorem dL_law_597 : decode cL_law 597 = .ok (.ireturn, 1) := by decide +kernel
