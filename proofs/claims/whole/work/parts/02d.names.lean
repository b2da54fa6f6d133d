theorem dX6_digest_125 : decode cX6_digest 125 = .ok (.aload 4, 2) := by decide +kernel
theorem dX6_digest_127 : decode cX6_digest 127 = .ok (.getfield 123, 3) := by decide +kernel
theorem dX6_digest_130 : decode cX6_digest 130 = .ok (.i2l, 1) := by decide +kernel
theorem dX6_digest_131 : decode cX6_digest 131 = .ok (.ladd, 1) := by decide +kernel
theorem dX6_digest_132 : decode cX6_digest 132 = .ok (.lstore_n 1, 1) := by decide +kernel
theorem dX6_digest_133 : decode cX6_digest 133 = .ok (.iinc 3 1, 3) := by decide +kernel
theorem dX6_digest_136 : decode cX6_digest 136 = .ok (.goto (-71), 3) := by decide +kernel
theorem dX6_digest_139 : decode cX6_digest 139 = .ok (.lload_n 1, 1) := by decide +kernel
theorem dX6_digest_140 : decode cX6_digest 140 = .ok (.lreturn, 1) := by decide +kernel
set_option maxRecDepth 20000 in
theorem ggX6_mark_X2_take : GoodIn wsX6_mark wsX2_take := goodIn_r _ [10, 11, 12, 13, 14, 15, 16, 17, 18, 19, 20, 21, 22, 23, 24, 25, 26, 27, 28, 29, 30, 31, 32, 33, 34, 35, 36, 37, 38, 39, 53, 54, 55, 56, 57, 58, 59, 60, 61, 62, 63] (by decide +kernel) (by decide +kernel)
set_option maxRecDepth 20000 in
theorem gX6_mark_X2_take : GoodIn wsX6_mark (wsV RX6 184 RX2 yX2_take wsX2_take) := goodIn_app (goodIn_of _ (by decide +kernel)) ggX6_mark_X2_take
theorem dX6_mark_0 : decode cX6_mark 0 = .ok (.aload_n 0, 1) := by decide +kernel
theorem dX6_mark_1 : decode cX6_mark 1 = .ok (.getfield 44, 3) := by decide +kernel
theorem dX6_mark_4 : decode cX6_mark 4 = .ok (.aload_n 0, 1) := by decide +kernel
theorem dX6_mark_5 : decode cX6_mark 5 = .ok (.getfield 12, 3) := by decide +kernel
theorem dX6_mark_8 : decode cX6_mark 8 = .ok (.getfield 111, 3) := by decide +kernel
theorem dX6_mark_11 : decode cX6_mark 11 = .ok (.aload_n 0, 1) := by decide +kernel
theorem dX6_mark_12 : decode cX6_mark 12 = .ok (.getfield 25, 3) := by decide +kernel
theorem dX6_mark_15 : decode cX6_mark 15 = .ok (.iconst 0, 1) := by decide +kernel
theorem dX6_mark_16 : decode cX6_mark 16 = .ok (.aaload, 1) := by decide +kernel
theorem dX6_mark_17 : decode cX6_mark 17 = .ok (.aload_n 0, 1) := by decide +kernel
theorem dX6_mark_18 : decode cX6_mark 18 = .ok (.getfield 76, 3) := by decide +kernel
theorem dX6_mark_21 : decode cX6_mark 21 = .ok (.invokevirtual 184, 3) := by decide +kernel
theorem dX6_mark_24 : decode cX6_mark 24 = .ok (.aload_n 0, 1) := by decide +kernel
theorem dX6_mark_25 : decode cX6_mark 25 = .ok (.getfield 76, 3) := by decide +kernel
theorem dX6_mark_28 : decode cX6_mark 28 = .ok (.ireturn, 1) := by decide +kernel
set_option maxRecDepth 20000 in
theorem ggX6_road_X6_isWithin : GoodIn wsX6_road wsX6_isWithin := goodIn_r _ [13] (by decide +kernel) (by decide +kernel)
set_option maxRecDepth 20000 in
theorem gX6_road_X6_isWithin : GoodIn wsX6_road (va_wsS RX6 63 yX6_isWithin wsX6_isWithin) := goodIn_app (goodIn_of _ (by decide +kernel)) ggX6_road_X6_isWithin
set_option maxRecDepth 20000 in
theorem ggX6_road_X6_isRoadShown : GoodIn wsX6_road wsX6_isRoadShown := goodIn_r _ [17, 18, 1, 19, 4, 5, 6, 8, 7, 9, 20, 21, 22, 23, 24, 25, 26, 27, 28, 29, 12, 30, 31, 32, 33, 34, 35, 36, 37, 38, 39, 40, 41, 42, 43, 44, 45, 46, 47, 48, 49, 50, 51, 52, 53, 54, 55, 56, 57, 58, 59, 60, 61, 62, 63, 64, 65, 66, 67, 68, 69, 70, 71, 72] (by decide +kernel) (by decide +kernel)
set_option maxRecDepth 20000 in
theorem gX6_road_X6_isRoadShown : GoodIn wsX6_road (wsV RX6 195 RX6 yX6_isRoadShown wsX6_isRoadShown) := goodIn_app (goodIn_of _ (by decide +kernel)) ggX6_road_X6_isRoadShown
theorem dX6_road_0 : decode cX6_road 0 = .ok (.iload_n 1, 1) := by decide +kernel
theorem dX6_road_1 : decode cX6_road 1 = .ok (.iconst 0, 1) := by decide +kernel
theorem dX6_road_2 : decode cX6_road 2 = .ok (.iconst 3, 1) := by decide +kernel
theorem dX6_road_3 : decode cX6_road 3 = .ok (.invokestatic 63, 3) := by decide +kernel
theorem dX6_road_6 : decode cX6_road 6 = .ok (.ifCond .ne 7, 3) := by decide +kernel
theorem dX6_road_9 : decode cX6_road 9 = .ok (.sipush (-1001), 3) := by decide +kernel
theorem dX6_road_12 : decode cX6_road 12 = .ok (.ireturn, 1) := by decide +kernel
theorem dX6_road_13 : decode cX6_road 13 = .ok (.aload_n 0, 1) := by decide +kernel
theorem dX6_road_14 : decode cX6_road 14 = .ok (.getfield 44, 3) := by decide +kernel
theorem dX6_road_17 : decode cX6_road 17 = .ok (.getfield 188, 3) := by decide +kernel
theorem dX6_road_20 : decode cX6_road 20 = .ok (.ifCond .ne 7, 3) := by decide +kernel
theorem dX6_road_23 : decode cX6_road 23 = .ok (.sipush (-1002), 3) := by decide +kernel
theorem dX6_road_26 : decode cX6_road 26 = .ok (.ireturn, 1) := by decide +kernel
theorem dX6_road_27 : decode cX6_road 27 = .ok (.iload_n 1, 1) := by decide +kernel
theorem dX6_road_28 : decode cX6_road 28 = .ok (.iconst 3, 1) := by decide +kernel
theorem dX6_road_29 : decode cX6_road 29 = .ok (.if_icmp .ne 11, 3) := by decide +kernel
theorem dX6_road_32 : decode cX6_road 32 = .ok (.aload_n 0, 1) := by decide +kernel
theorem dX6_road_33 : decode cX6_road 33 = .ok (.getfield 44, 3) := by decide +kernel
theorem dX6_road_36 : decode cX6_road 36 = .ok (.getfield 192, 3) := by decide +kernel
theorem dX6_road_39 : decode cX6_road 39 = .ok (.ireturn, 1) := by decide +kernel
theorem dX6_road_40 : decode cX6_road 40 = .ok (.aload_n 0, 1) := by decide +kernel
theorem dX6_road_41 : decode cX6_road 41 = .ok (.invokevirtual 195, 3) := by decide +kernel
theorem dX6_road_44 : decode cX6_road 44 = .ok (.ifCond .ne 15, 3) := by decide +kernel
theorem dX6_road_47 : decode cX6_road 47 = .ok (.iload_n 1, 1) := by decide +kernel
theorem dX6_road_48 : decode cX6_road 48 = .ok (.ifCond .ne 7, 3) := by decide +kernel
theorem dX6_road_51 : decode cX6_road 51 = .ok (.iconst 0, 1) := by decide +kernel
theorem dX6_road_52 : decode cX6_road 52 = .ok (.goto 6, 3) := by decide +kernel
theorem dX6_road_55 : decode cX6_road 55 = .ok (.sipush (-1002), 3) := by decide +kernel
theorem dX6_road_58 : decode cX6_road 58 = .ok (.ireturn, 1) := by decide +kernel
theorem dX6_road_59 : decode cX6_road 59 = .ok (.iload_n 1, 1) := by decide +kernel
theorem dX6_road_60 : decode cX6_road 60 = .ok (.lookupswitch 62 #[(0, 28), (1, 41)], 28) := by decide +kernel
theorem dX6_road_88 : decode cX6_road 88 = .ok (.aload_n 0, 1) := by decide +kernel
theorem dX6_road_89 : decode cX6_road 89 = .ok (.getfield 76, 3) := by decide +kernel
theorem dX6_road_92 : decode cX6_road 92 = .ok (.aload_n 0, 1) := by decide +kernel
theorem dX6_road_93 : decode cX6_road 93 = .ok (.getfield 44, 3) := by decide +kernel
theorem dX6_road_96 : decode cX6_road 96 = .ok (.getfield 198, 3) := by decide +kernel
theorem dX6_road_99 : decode cX6_road 99 = .ok (.isub, 1) := by decide +kernel
theorem dX6_road_100 : decode cX6_road 100 = .ok (.ireturn, 1) := by decide +kernel
theorem dX6_road_101 : decode cX6_road 101 = .ok (.aload_n 0, 1) := by decide +kernel
theorem dX6_road_102 : decode cX6_road 102 = .ok (.getfield 25, 3) := by decide +kernel
theorem dX6_road_105 : decode cX6_road 105 = .ok (.iconst 0, 1) := by decide +kernel
theorem dX6_road_106 : decode cX6_road 106 = .ok (.aaload, 1) := by decide +kernel
theorem dX6_road_107 : decode cX6_road 107 = .ok (.getfield 114, 3) := by decide +kernel
theorem dX6_road_110 : decode cX6_road 110 = .ok (.aload_n 0, 1) := by decide +kernel
theorem dX6_road_111 : decode cX6_road 111 = .ok (.getfield 44, 3) := by decide +kernel
theorem dX6_road_114 : decode cX6_road 114 = .ok (.getfield 201, 3) := by decide +kernel
theorem dX6_road_117 : decode cX6_road 117 = .ok (.getfield 114, 3) := by decide +kernel
theorem dX6_road_120 : decode cX6_road 120 = .ok (.isub, 1) := by decide +kernel
theorem dX6_road_121 : decode cX6_road 121 = .ok (.ireturn, 1) := by decide +kernel
theorem dX6_road_122 : decode cX6_road 122 = .ok (.aload_n 0, 1) := by decide +kernel
theorem dX6_road_123 : decode cX6_road 123 = .ok (.getfield 25, 3) := by decide +kernel
theorem dX6_road_126 : decode cX6_road 126 = .ok (.iconst 0, 1) := by decide +kernel
theorem dX6_road_127 : decode cX6_road 127 = .ok (.aaload, 1) := by decide +kernel
theorem dX6_road_128 : decode cX6_road 128 = .ok (.getfield 117, 3) := by decide +kernel
theorem dX6_road_131 : decode cX6_road 131 = .ok (.aload_n 0, 1) := by decide +kernel
theorem dX6_road_132 : decode cX6_road 132 = .ok (.getfield 44, 3) := by decide +kernel
theorem dX6_road_135 : decode cX6_road 135 = .ok (.getfield 201, 3) := by decide +kernel
theorem dX6_road_138 : decode cX6_road 138 = .ok (.getfield 117, 3) := by decide +kernel
theorem dX6_road_141 : decode cX6_road 141 = .ok (.isub, 1) := by decide +kernel
theorem dX6_road_142 : decode cX6_road 142 = .ok (.ireturn, 1) := by decide +kernel
theorem dX6_differ_0 : decode cX6_differ 0 = .ok (.aload_n 0, 1) := by decide +kernel
theorem dX6_differ_1 : decode cX6_differ 1 = .ok (.getfield 44, 3) := by decide +kernel
theorem dX6_differ_4 : decode cX6_differ 4 = .ok (.getfield 188, 3) := by decide +kernel
theorem dX6_differ_7 : decode cX6_differ 7 = .ok (.ifCond .ne 6, 3) := by decide +kernel
theorem dX6_differ_10 : decode cX6_differ 10 = .ok (.bipush (-2), 2) := by decide +kernel
theorem dX6_differ_12 : decode cX6_differ 12 = .ok (.ireturn, 1) := by decide +kernel
theorem dX6_differ_13 : decode cX6_differ 13 = .ok (.iconst 0, 1) := by decide +kernel
theorem dX6_differ_14 : decode cX6_differ 14 = .ok (.istore_n 1, 1) := by decide +kernel
theorem dX6_differ_15 : decode cX6_differ 15 = .ok (.iconst 0, 1) := by decide +kernel
theorem dX6_differ_16 : decode cX6_differ 16 = .ok (.istore_n 2, 1) := by decide +kernel
theorem dX6_differ_17 : decode cX6_differ 17 = .ok (.iload_n 2, 1) := by decide +kernel
theorem dX6_differ_18 : decode cX6_differ 18 = .ok (.ldc 153, 2) := by decide +kernel
theorem dX6_differ_20 : decode cX6_differ 20 = .ok (.if_icmp .ge 33, 3) := by decide +kernel
theorem dX6_differ_23 : decode cX6_differ 23 = .ok (.aload_n 0, 1) := by decide +kernel
theorem dX6_differ_24 : decode cX6_differ 24 = .ok (.getfield 12, 3) := by decide +kernel
theorem dX6_differ_27 : decode cX6_differ 27 = .ok (.getfield 111, 3) := by decide +kernel
theorem dX6_differ_30 : decode cX6_differ 30 = .ok (.iload_n 2, 1) := by decide +kernel
theorem dX6_differ_31 : decode cX6_differ 31 = .ok (.iaload, 1) := by decide +kernel
theorem dX6_differ_32 : decode cX6_differ 32 = .ok (.aload_n 0, 1) := by decide +kernel
theorem dX6_differ_33 : decode cX6_differ 33 = .ok (.getfield 44, 3) := by decide +kernel
theorem dX6_differ_36 : decode cX6_differ 36 = .ok (.getfield 205, 3) := by decide +kernel
theorem dX6_differ_39 : decode cX6_differ 39 = .ok (.iload_n 2, 1) := by decide +kernel
theorem dX6_differ_40 : decode cX6_differ 40 = .ok (.iaload, 1) := by decide +kernel
theorem dX6_differ_41 : decode cX6_differ 41 = .ok (.if_icmp .eq 6, 3) := by decide +kernel
theorem dX6_differ_44 : decode cX6_differ 44 = .ok (.iinc 1 1, 3) := by decide +kernel
theorem dX6_differ_47 : decode cX6_differ 47 = .ok (.iinc 2 1, 3) := by decide +kernel
theorem dX6_differ_50 : decode cX6_differ 50 = .ok (.goto (-33), 3) := by decide +kernel
theorem dX6_differ_53 : decode cX6_differ 53 = .ok (.iload_n 1, 1) := by decide +kernel
theorem dX6_differ_54 : decode cX6_differ 54 = .ok (.ireturn, 1) := by decide +kernel
set_option maxRecDepth 20000 in
theorem ggX6_like_X6_isWithin : GoodIn wsX6_like wsX6_isWithin := goodIn_r _ [6] (by decide +kernel) (by decide +kernel)
set_option maxRecDepth 20000 in
theorem gX6_like_X6_isWithin : GoodIn wsX6_like (va_wsS RX6 63 yX6_isWithin wsX6_isWithin) := goodIn_app (goodIn_of _ (by decide +kernel)) ggX6_like_X6_isWithin
set_option maxRecDepth 20000 in
theorem ggX6_like_X6_isLikeImage : GoodIn wsX6_like wsX6_isLikeImage := goodIn_r _ [10, 11, 1, 12, 13, 14, 15, 5, 16, 17, 18, 19, 20, 21, 22, 23, 24, 25, 26, 27, 28, 29, 30, 31, 32, 33, 34, 35, 36, 37, 38, 39, 40, 41, 42, 43, 44] (by decide +kernel) (by decide +kernel)
set_option maxRecDepth 20000 in
theorem gX6_like_X6_isLikeImage : GoodIn wsX6_like (wsV RX6 206 RX6 yX6_isLikeImage wsX6_isLikeImage) := goodIn_app (goodIn_of _ (by decide +kernel)) ggX6_like_X6_isLikeImage
theorem dX6_like_0 : decode cX6_like 0 = .ok (.iload_n 1, 1) := by decide +kernel
theorem dX6_like_1 : decode cX6_like 1 = .ok (.iconst 0, 1) := by decide +kernel
theorem dX6_like_2 : decode cX6_like 2 = .ok (.iconst 4, 1) := by decide +kernel
theorem dX6_like_3 : decode cX6_like 3 = .ok (.invokestatic 63, 3) := by decide +kernel
theorem dX6_like_6 : decode cX6_like 6 = .ok (.ifCond .eq 29, 3) := by decide +kernel
theorem dX6_like_9 : decode cX6_like 9 = .ok (.iload_n 2, 1) := by decide +kernel
theorem dX6_like_10 : decode cX6_like 10 = .ok (.sipush (-300), 3) := by decide +kernel
theorem dX6_like_13 : decode cX6_like 13 = .ok (.sipush 300, 3) := by decide +kernel
theorem dX6_like_16 : decode cX6_like 16 = .ok (.invokestatic 63, 3) := by decide +kernel
theorem dX6_like_19 : decode cX6_like 19 = .ok (.ifCond .eq 16, 3) := by decide +kernel
theorem dX6_like_22 : decode cX6_like 22 = .ok (.iload_n 3, 1) := by decide +kernel
theorem dX6_like_23 : decode cX6_like 23 = .ok (.sipush (-300), 3) := by decide +kernel
theorem dX6_like_26 : decode cX6_like 26 = .ok (.sipush 300, 3) := by decide +kernel
theorem dX6_like_29 : decode cX6_like 29 = .ok (.invokestatic 63, 3) := by decide +kernel
theorem dX6_like_32 : decode cX6_like 32 = .ok (.ifCond .ne 5, 3) := by decide +kernel
theorem dX6_like_35 : decode cX6_like 35 = .ok (.iconst (-1), 1) := by decide +kernel
theorem dX6_like_36 : decode cX6_like 36 = .ok (.ireturn, 1) := by decide +kernel
theorem dX6_like_37 : decode cX6_like 37 = .ok (.aload_n 0, 1) := by decide +kernel
theorem dX6_like_38 : decode cX6_like 38 = .ok (.getfield 12, 3) := by decide +kernel
theorem dX6_like_41 : decode cX6_like 41 = .ok (.getfield 161, 3) := by decide +kernel
theorem dX6_like_44 : decode cX6_like 44 = .ok (.iconst 1, 1) := by decide +kernel
theorem dX6_like_45 : decode cX6_like 45 = .ok (.if_icmp .ne 10, 3) := by decide +kernel
theorem dX6_like_48 : decode cX6_like 48 = .ok (.iload_n 1, 1) := by decide +kernel
theorem dX6_like_49 : decode cX6_like 49 = .ok (.ifCond .eq 6, 3) := by decide +kernel
theorem dX6_like_52 : decode cX6_like 52 = .ok (.bipush (-2), 2) := by decide +kernel
theorem dX6_like_54 : decode cX6_like 54 = .ok (.ireturn, 1) := by decide +kernel
theorem dX6_like_55 : decode cX6_like 55 = .ok (.aload_n 0, 1) := by decide +kernel
theorem dX6_like_56 : decode cX6_like 56 = .ok (.iload_n 1, 1) := by decide +kernel
theorem dX6_like_57 : decode cX6_like 57 = .ok (.iload_n 2, 1) := by decide +kernel
theorem dX6_like_58 : decode cX6_like 58 = .ok (.iload_n 3, 1) := by decide +kernel
theorem dX6_like_59 : decode cX6_like 59 = .ok (.invokevirtual 206, 3) := by decide +kernel
theorem dX6_like_62 : decode cX6_like 62 = .ok (.ifCond .eq 7, 3) := by decide +kernel
theorem dX6_like_65 : decode cX6_like 65 = .ok (.iconst 1, 1) := by decide +kernel
theorem dX6_like_66 : decode cX6_like 66 = .ok (.goto 4, 3) := by decide +kernel
theorem dX6_like_69 : decode cX6_like 69 = .ok (.iconst 0, 1) := by decide +kernel
theorem dX6_like_70 : decode cX6_like 70 = .ok (.ireturn, 1) := by decide +kernel
set_option maxRecDepth 20000 in
theorem ggX6_sheet_X6_isSheet : GoodIn wsX6_sheet wsX6_isSheet := goodIn_r _ [5, 6, 7, 4, 8] (by decide +kernel) (by decide +kernel)
set_option maxRecDepth 20000 in
theorem gX6_sheet_X6_isSheet : GoodIn wsX6_sheet (va_wsS RX6 209 yX6_isSheet wsX6_isSheet) := goodIn_app (goodIn_of _ (by decide +kernel)) ggX6_sheet_X6_isSheet
set_option maxRecDepth 20000 in
theorem ggX6_sheet_X6_isLane : GoodIn wsX6_sheet wsX6_isLane := goodIn_r _ [11, 6, 7, 4, 8] (by decide +kernel) (by decide +kernel)
set_option maxRecDepth 20000 in
theorem gX6_sheet_X6_isLane : GoodIn wsX6_sheet (va_wsS RX6 212 yX6_isLane wsX6_isLane) := goodIn_app (goodIn_of _ (by decide +kernel)) ggX6_sheet_X6_isLane
set_option maxRecDepth 20000 in
theorem ggX6_sheet_X5_hold : GoodIn wsX6_sheet wsX5_hold := goodIn_r _ [16, 17, 18, 19, 20, 21, 22, 23, 33, 34, 35] (by decide +kernel) (by decide +kernel)
set_option maxRecDepth 20000 in
theorem gX6_sheet_X5_hold : GoodIn wsX6_sheet (wsV RX6 215 RX5 yX5_hold wsX5_hold) := goodIn_app (goodIn_of _ (by decide +kernel)) ggX6_sheet_X5_hold
theorem dX6_sheet_0 : decode cX6_sheet 0 = .ok (.iload_n 1, 1) := by decide +kernel
theorem dX6_sheet_1 : decode cX6_sheet 1 = .ok (.invokestatic 209, 3) := by decide +kernel
theorem dX6_sheet_4 : decode cX6_sheet 4 = .ok (.ifCond .eq 16, 3) := by decide +kernel
theorem dX6_sheet_7 : decode cX6_sheet 7 = .ok (.iload_n 2, 1) := by decide +kernel
theorem dX6_sheet_8 : decode cX6_sheet 8 = .ok (.invokestatic 212, 3) := by decide +kernel
theorem dX6_sheet_11 : decode cX6_sheet 11 = .ok (.ifCond .eq 9, 3) := by decide +kernel
theorem dX6_sheet_14 : decode cX6_sheet 14 = .ok (.iload_n 3, 1) := by decide +kernel
theorem dX6_sheet_15 : decode cX6_sheet 15 = .ok (.bipush 60, 2) := by decide +kernel
theorem dX6_sheet_17 : decode cX6_sheet 17 = .ok (.if_icmp .le 5, 3) := by decide +kernel
theorem dX6_sheet_20 : decode cX6_sheet 20 = .ok (.iconst (-1), 1) := by decide +kernel
theorem dX6_sheet_21 : decode cX6_sheet 21 = .ok (.ireturn, 1) := by decide +kernel
theorem dX6_sheet_22 : decode cX6_sheet 22 = .ok (.iload_n 3, 1) := by decide +kernel
theorem dX6_sheet_23 : decode cX6_sheet 23 = .ok (.ifCond .ge 6, 3) := by decide +kernel
theorem dX6_sheet_26 : decode cX6_sheet 26 = .ok (.bipush (-14), 2) := by decide +kernel
theorem dX6_sheet_28 : decode cX6_sheet 28 = .ok (.ireturn, 1) := by decide +kernel
theorem dX6_sheet_29 : decode cX6_sheet 29 = .ok (.aload_n 0, 1) := by decide +kernel
theorem dX6_sheet_30 : decode cX6_sheet 30 = .ok (.getfield 50, 3) := by decide +kernel
theorem dX6_sheet_33 : decode cX6_sheet 33 = .ok (.iload_n 1, 1) := by decide +kernel
theorem dX6_sheet_34 : decode cX6_sheet 34 = .ok (.aaload, 1) := by decide +kernel
theorem dX6_sheet_35 : decode cX6_sheet 35 = .ok (.iload_n 2, 1) := by decide +kernel
theorem dX6_sheet_36 : decode cX6_sheet 36 = .ok (.iload_n 3, 1) := by decide +kernel
theorem dX6_sheet_37 : decode cX6_sheet 37 = .ok (.invokevirtual 215, 3) := by decide +kernel
theorem dX6_sheet_40 : decode cX6_sheet 40 = .ok (.iload_n 3, 1) := by decide +kernel
theorem dX6_sheet_41 : decode cX6_sheet 41 = .ok (.ireturn, 1) := by decide +kernel
set_option maxRecDepth 20000 in
theorem ggX6_drop_X6_isSheet : GoodIn wsX6_drop wsX6_isSheet := goodIn_r _ [6, 7, 8, 5, 9] (by decide +kernel) (by decide +kernel)
set_option maxRecDepth 20000 in
theorem gX6_drop_X6_isSheet : GoodIn wsX6_drop (va_wsS RX6 209 yX6_isSheet wsX6_isSheet) := goodIn_app (goodIn_of _ (by decide +kernel)) ggX6_drop_X6_isSheet
set_option maxRecDepth 20000 in
theorem ggX6_drop_X5_isNothing : GoodIn wsX6_drop wsX5_isNothing := goodIn_r _ [14, 15, 35, 36, 37] (by decide +kernel) (by decide +kernel)
set_option maxRecDepth 20000 in
theorem gX6_drop_X5_isNothing : GoodIn wsX6_drop (wsV RX6 218 RX5 yX5_isNothing wsX5_isNothing) := goodIn_app (goodIn_of _ (by decide +kernel)) ggX6_drop_X5_isNothing
set_option maxRecDepth 20000 in
theorem ggX6_drop_X5_hold : GoodIn wsX6_drop wsX5_hold := goodIn_r _ [19, 15, 20, 21, 22, 23, 24, 25, 35, 36, 37] (by decide +kernel) (by decide +kernel)
set_option maxRecDepth 20000 in
theorem gX6_drop_X5_hold : GoodIn wsX6_drop (wsV RX6 215 RX5 yX5_hold wsX5_hold) := goodIn_app (goodIn_of _ (by decide +kernel)) ggX6_drop_X5_hold
theorem dX6_drop_0 : decode cX6_drop 0 = .ok (.iload_n 1, 1) := by decide +kernel
theorem dX6_drop_1 : decode cX6_drop 1 = .ok (.invokestatic 209, 3) := by decide +kernel
theorem dX6_drop_4 : decode cX6_drop 4 = .ok (.ifCond .ne 5, 3) := by decide +kernel
theorem dX6_drop_7 : decode cX6_drop 7 = .ok (.iconst (-1), 1) := by decide +kernel
theorem dX6_drop_8 : decode cX6_drop 8 = .ok (.ireturn, 1) := by decide +kernel
theorem dX6_drop_9 : decode cX6_drop 9 = .ok (.aload_n 0, 1) := by decide +kernel
theorem dX6_drop_10 : decode cX6_drop 10 = .ok (.getfield 50, 3) := by decide +kernel
theorem dX6_drop_13 : decode cX6_drop 13 = .ok (.iload_n 1, 1) := by decide +kernel
theorem dX6_drop_14 : decode cX6_drop 14 = .ok (.aaload, 1) := by decide +kernel
theorem dX6_drop_15 : decode cX6_drop 15 = .ok (.astore_n 2, 1) := by decide +kernel
theorem dX6_drop_16 : decode cX6_drop 16 = .ok (.aload_n 2, 1) := by decide +kernel
theorem dX6_drop_17 : decode cX6_drop 17 = .ok (.invokevirtual 218, 3) := by decide +kernel
theorem dX6_drop_20 : decode cX6_drop 20 = .ok (.ifCond .eq 6, 3) := by decide +kernel
theorem dX6_drop_23 : decode cX6_drop 23 = .ok (.bipush (-11), 2) := by decide +kernel
theorem dX6_drop_25 : decode cX6_drop 25 = .ok (.ireturn, 1) := by decide +kernel
theorem dX6_drop_26 : decode cX6_drop 26 = .ok (.aload_n 2, 1) := by decide +kernel
theorem dX6_drop_27 : decode cX6_drop 27 = .ok (.getfield 221, 3) := by decide +kernel
theorem dX6_drop_30 : decode cX6_drop 30 = .ok (.istore_n 3, 1) := by decide +kernel
theorem dX6_drop_31 : decode cX6_drop 31 = .ok (.aload_n 2, 1) := by decide +kernel
theorem dX6_drop_32 : decode cX6_drop 32 = .ok (.iconst (-1), 1) := by decide +kernel
theorem dX6_drop_33 : decode cX6_drop 33 = .ok (.iconst 0, 1) := by decide +kernel
theorem dX6_drop_34 : decode cX6_drop 34 = .ok (.invokevirtual 215, 3) := by decide +kernel
theorem dX6_drop_37 : decode cX6_drop 37 = .ok (.iload_n 3, 1) := by decide +kernel
theorem dX6_drop_38 : decode cX6_drop 38 = .ok (.ireturn, 1) := by decide +kernel
set_option maxRecDepth 20000 in
theorem ggX6_item_X6_isSheet : GoodIn wsX6_item wsX6_isSheet := goodIn_r _ [6, 7, 8, 5, 9] (by decide +kernel) (by decide +kernel)
set_option maxRecDepth 20000 in
theorem gX6_item_X6_isSheet : GoodIn wsX6_item (va_wsS RX6 209 yX6_isSheet wsX6_isSheet) := goodIn_app (goodIn_of _ (by decide +kernel)) ggX6_item_X6_isSheet
set_option maxRecDepth 20000 in
theorem ggX6_item_X6_isLane : GoodIn wsX6_item wsX6_isLane := goodIn_r _ [12, 7, 8, 5, 9] (by decide +kernel) (by decide +kernel)
set_option maxRecDepth 20000 in
theorem gX6_item_X6_isLane : GoodIn wsX6_item (va_wsS RX6 212 yX6_isLane wsX6_isLane) := goodIn_app (goodIn_of _ (by decide +kernel)) ggX6_item_X6_isLane
set_option maxRecDepth 20000 in
theorem ggX6_item_X5_foundAs : GoodIn wsX6_item wsX5_foundAs := goodIn_r _ [17, 18, 19, 20, 21, 16, 22, 41, 42, 43] (by decide +kernel) (by decide +kernel)
set_option maxRecDepth 20000 in
theorem gX6_item_X5_foundAs : GoodIn wsX6_item (wsV RX6 224 RX5 yX5_foundAs wsX5_foundAs) := goodIn_app (goodIn_of _ (by decide +kernel)) ggX6_item_X5_foundAs
set_option maxRecDepth 20000 in
theorem ggX6_item_X5_hasItems : GoodIn wsX6_item wsX5_hasItems := goodIn_r _ [26, 27, 41, 42, 43] (by decide +kernel) (by decide +kernel)
set_option maxRecDepth 20000 in
theorem gX6_item_X5_hasItems : GoodIn wsX6_item (wsV RX6 227 RX5 yX5_hasItems wsX5_hasItems) := goodIn_app (goodIn_of _ (by decide +kernel)) ggX6_item_X5_hasItems
set_option maxRecDepth 20000 in
theorem ggX6_item_X5_lowestBits : GoodIn wsX6_item wsX5_lowestBits := goodIn_r _ [31, 18, 41, 42, 43] (by decide +kernel) (by decide +kernel)
set_option maxRecDepth 20000 in
theorem gX6_item_X5_lowestBits : GoodIn wsX6_item (wsV RX6 233 RX5 yX5_lowestBits wsX5_lowestBits) := goodIn_app (goodIn_of _ (by decide +kernel)) ggX6_item_X5_lowestBits
theorem dX6_item_0 : decode cX6_item 0 = .ok (.iload_n 1, 1) := by decide +kernel
theorem dX6_item_1 : decode cX6_item 1 = .ok (.invokestatic 209, 3) := by decide +kernel
theorem dX6_item_4 : decode cX6_item 4 = .ok (.ifCond .eq 10, 3) := by decide +kernel
theorem dX6_item_7 : decode cX6_item 7 = .ok (.iload_n 2, 1) := by decide +kernel
theorem dX6_item_8 : decode cX6_item 8 = .ok (.invokestatic 212, 3) := by decide +kernel
theorem dX6_item_11 : decode cX6_item 11 = .ok (.ifCond .ne 5, 3) := by decide +kernel
theorem dX6_item_14 : decode cX6_item 14 = .ok (.iconst (-1), 1) := by decide +kernel
theorem dX6_item_15 : decode cX6_item 15 = .ok (.ireturn, 1) := by decide +kernel
theorem dX6_item_16 : decode cX6_item 16 = .ok (.aload_n 0, 1) := by decide +kernel
theorem dX6_item_17 : decode cX6_item 17 = .ok (.getfield 50, 3) := by decide +kernel
theorem dX6_item_20 : decode cX6_item 20 = .ok (.iload_n 1, 1) := by decide +kernel
theorem dX6_item_21 : decode cX6_item 21 = .ok (.aaload, 1) := by decide +kernel
theorem dX6_item_22 : decode cX6_item 22 = .ok (.astore 5, 2) := by decide +kernel
theorem dX6_item_24 : decode cX6_item 24 = .ok (.aload 5, 2) := by decide +kernel
theorem dX6_item_26 : decode cX6_item 26 = .ok (.iload_n 2, 1) := by decide +kernel
theorem dX6_item_27 : decode cX6_item 27 = .ok (.invokevirtual 224, 3) := by decide +kernel
theorem dX6_item_30 : decode cX6_item 30 = .ok (.istore 6, 2) := by decide +kernel
theorem dX6_item_32 : decode cX6_item 32 = .ok (.iload 6, 2) := by decide +kernel
theorem dX6_item_34 : decode cX6_item 34 = .ok (.ifCond .eq 6, 3) := by decide +kernel
theorem dX6_item_37 : decode cX6_item 37 = .ok (.iload 6, 2) := by decide +kernel
theorem dX6_item_39 : decode cX6_item 39 = .ok (.ireturn, 1) := by decide +kernel
theorem dX6_item_40 : decode cX6_item 40 = .ok (.aload 5, 2) := by decide +kernel
theorem dX6_item_42 : decode cX6_item 42 = .ok (.iload_n 3, 1) := by decide +kernel
theorem dX6_item_43 : decode cX6_item 43 = .ok (.iconst 1, 1) := by decide +kernel
theorem dX6_item_44 : decode cX6_item 44 = .ok (.invokevirtual 227, 3) := by decide +kernel
theorem dX6_item_47 : decode cX6_item 47 = .ok (.ifCond .ne 6, 3) := by decide +kernel
theorem dX6_item_50 : decode cX6_item 50 = .ok (.bipush (-13), 2) := by decide +kernel
theorem dX6_item_52 : decode cX6_item 52 = .ok (.ireturn, 1) := by decide +kernel
theorem dX6_item_53 : decode cX6_item 53 = .ok (.aload 5, 2) := by decide +kernel
theorem dX6_item_55 : decode cX6_item 55 = .ok (.getfield 230, 3) := by decide +kernel
theorem dX6_item_58 : decode cX6_item 58 = .ok (.iload_n 3, 1) := by decide +kernel
theorem dX6_item_59 : decode cX6_item 59 = .ok (.aload 5, 2) := by decide +kernel
theorem dX6_item_61 : decode cX6_item 61 = .ok (.iload 4, 2) := by decide +kernel
theorem dX6_item_63 : decode cX6_item 63 = .ok (.invokevirtual 233, 3) := by decide +kernel
theorem dX6_item_66 : decode cX6_item 66 = .ok (.iastore, 1) := by decide +kernel
theorem dX6_item_67 : decode cX6_item 67 = .ok (.iconst 1, 1) := by decide +kernel
theorem dX6_item_68 : decode cX6_item 68 = .ok (.ireturn, 1) := by decide +kernel
set_option maxRecDepth 20000 in
theorem ggX6_lay_X6_isSheet : GoodIn wsX6_lay wsX6_isSheet := goodIn_r _ [14, 15, 16, 13, 17] (by decide +kernel) (by decide +kernel)
set_option maxRecDepth 20000 in
theorem gX6_lay_X6_isSheet : GoodIn wsX6_lay (va_wsS RX6 209 yX6_isSheet wsX6_isSheet) := goodIn_app (goodIn_of _ (by decide +kernel)) ggX6_lay_X6_isSheet
set_option maxRecDepth 20000 in
theorem ggX6_lay_X6_isLane : GoodIn wsX6_lay wsX6_isLane := goodIn_r _ [20, 15, 16, 13, 17] (by decide +kernel) (by decide +kernel)
set_option maxRecDepth 20000 in
theorem gX6_lay_X6_isLane : GoodIn wsX6_lay (va_wsS RX6 212 yX6_isLane wsX6_isLane) := goodIn_app (goodIn_of _ (by decide +kernel)) ggX6_lay_X6_isLane
set_option maxRecDepth 20000 in
theorem ggX6_lay_X5_foundAs : GoodIn wsX6_lay wsX5_foundAs := goodIn_r _ [25, 26, 27, 28, 29, 24, 30, 66, 67, 68] (by decide +kernel) (by decide +kernel)
set_option maxRecDepth 20000 in
theorem gX6_lay_X5_foundAs : GoodIn wsX6_lay (wsV RX6 224 RX5 yX5_foundAs wsX5_foundAs) := goodIn_app (goodIn_of _ (by decide +kernel)) ggX6_lay_X5_foundAs
set_option maxRecDepth 20000 in
theorem ggX6_lay_X5_hasItems : GoodIn wsX6_lay wsX5_hasItems := goodIn_r _ [34, 35, 66, 67, 68] (by decide +kernel) (by decide +kernel)
set_option maxRecDepth 20000 in
theorem gX6_lay_X5_hasItems : GoodIn wsX6_lay (wsV RX6 227 RX5 yX5_hasItems wsX5_hasItems) := goodIn_app (goodIn_of _ (by decide +kernel)) ggX6_lay_X5_hasItems
set_option maxRecDepth 20000 in
theorem ggX6_lay_X6_placeOf : GoodIn wsX6_lay wsX6_placeOf := goodIn_r _ [38, 39, 40, 13, 41] (by decide +kernel) (by decide +kernel)
set_option maxRecDepth 20000 in
theorem gX6_lay_X6_placeOf : GoodIn wsX6_lay (va_wsS RX6 107 yX6_placeOf wsX6_placeOf) := goodIn_app (goodIn_of _ (by decide +kernel)) ggX6_lay_X6_placeOf
set_option maxRecDepth 20000 in
theorem ggX6_lay_X5_areColours : GoodIn wsX6_lay wsX5_areColours := goodIn_r _ [45, 46, 16, 13, 17, 66, 67, 68] (by decide +kernel) (by decide +kernel)
set_option maxRecDepth 20000 in
theorem gX6_lay_X5_areColours : GoodIn wsX6_lay (wsV RX6 236 RX5 yX5_areColours wsX5_areColours) := goodIn_app (goodIn_of _ (by decide +kernel)) ggX6_lay_X5_areColours
set_option maxRecDepth 20000 in
theorem ggX6_lay_X2_spoil : GoodIn wsX6_lay wsX2_spoil := goodIn_r _ [51, 52, 69, 70, 71, 72, 73, 74, 75] (by decide +kernel) (by decide +kernel)
set_option maxRecDepth 20000 in
theorem gX6_lay_X2_spoil : GoodIn wsX6_lay (wsV RX6 96 RX2 yX2_spoil wsX2_spoil) := goodIn_app (goodIn_of _ (by decide +kernel)) ggX6_lay_X2_spoil
theorem dX6_lay_0 : decode cX6_lay 0 = .ok (.iload_n 1, 1) := by decide +kernel
theorem dX6_lay_1 : decode cX6_lay 1 = .ok (.invokestatic 209, 3) := by decide +kernel
theorem dX6_lay_4 : decode cX6_lay 4 = .ok (.ifCond .eq 10, 3) := by decide +kernel
theorem dX6_lay_7 : decode cX6_lay 7 = .ok (.iload_n 2, 1) := by decide +kernel
theorem dX6_lay_8 : decode cX6_lay 8 = .ok (.invokestatic 212, 3) := by decide +kernel
theorem dX6_lay_11 : decode cX6_lay 11 = .ok (.ifCond .ne 5, 3) := by decide +kernel
theorem dX6_lay_14 : decode cX6_lay 14 = .ok (.iconst (-1), 1) := by decide +kernel
theorem dX6_lay_15 : decode cX6_lay 15 = .ok (.ireturn, 1) := by decide +kernel
theorem dX6_lay_16 : decode cX6_lay 16 = .ok (.aload_n 0, 1) := by decide +kernel
theorem dX6_lay_17 : decode cX6_lay 17 = .ok (.getfield 50, 3) := by decide +kernel
theorem dX6_lay_20 : decode cX6_lay 20 = .ok (.iload_n 1, 1) := by decide +kernel
theorem dX6_lay_21 : decode cX6_lay 21 = .ok (.aaload, 1) := by decide +kernel
theorem dX6_lay_22 : decode cX6_lay 22 = .ok (.astore 7, 2) := by decide +kernel
theorem dX6_lay_24 : decode cX6_lay 24 = .ok (.aload 7, 2) := by decide +kernel
theorem dX6_lay_26 : decode cX6_lay 26 = .ok (.iload_n 2, 1) := by decide +kernel
theorem dX6_lay_27 : decode cX6_lay 27 = .ok (.invokevirtual 224, 3) := by decide +kernel
theorem dX6_lay_30 : decode cX6_lay 30 = .ok (.istore 8, 2) := by decide +kernel
theorem dX6_lay_32 : decode cX6_lay 32 = .ok (.iload 8, 2) := by decide +kernel
theorem dX6_lay_34 : decode cX6_lay 34 = .ok (.ifCond .eq 6, 3) := by decide +kernel
theorem dX6_lay_37 : decode cX6_lay 37 = .ok (.iload 8, 2) := by decide +kernel
theorem dX6_lay_39 : decode cX6_lay 39 = .ok (.ireturn, 1) := by decide +kernel
theorem dX6_lay_40 : decode cX6_lay 40 = .ok (.iload 4, 2) := by decide +kernel
theorem dX6_lay_42 : decode cX6_lay 42 = .ok (.ifCond .ge 6, 3) := by decide +kernel
theorem dX6_lay_45 : decode cX6_lay 45 = .ok (.bipush (-14), 2) := by decide +kernel
theorem dX6_lay_47 : decode cX6_lay 47 = .ok (.ireturn, 1) := by decide +kernel
theorem dX6_lay_48 : decode cX6_lay 48 = .ok (.aload 7, 2) := by decide +kernel
theorem dX6_lay_50 : decode cX6_lay 50 = .ok (.iload_n 3, 1) := by decide +kernel
theorem dX6_lay_51 : decode cX6_lay 51 = .ok (.iload 4, 2) := by decide +kernel
theorem dX6_lay_53 : decode cX6_lay 53 = .ok (.invokevirtual 227, 3) := by decide +kernel
theorem dX6_lay_56 : decode cX6_lay 56 = .ok (.ifCond .ne 6, 3) := by decide +kernel
theorem dX6_lay_59 : decode cX6_lay 59 = .ok (.bipush (-13), 2) := by decide +kernel
theorem dX6_lay_61 : decode cX6_lay 61 = .ok (.ireturn, 1) := by decide +kernel
theorem dX6_lay_62 : decode cX6_lay 62 = .ok (.iload 4, 2) := by decide +kernel
theorem dX6_lay_64 : decode cX6_lay 64 = .ok (.ifCond .ne 5, 3) := by decide +kernel
theorem dX6_lay_67 : decode cX6_lay 67 = .ok (.iconst 0, 1) := by decide +kernel
theorem dX6_lay_68 : decode cX6_lay 68 = .ok (.ireturn, 1) := by decide +kernel
theorem dX6_lay_69 : decode cX6_lay 69 = .ok (.iload 5, 2) := by decide +kernel
theorem dX6_lay_71 : decode cX6_lay 71 = .ok (.iload 6, 2) := by decide +kernel
theorem dX6_lay_73 : decode cX6_lay 73 = .ok (.invokestatic 107, 3) := by decide +kernel
theorem dX6_lay_76 : decode cX6_lay 76 = .ok (.istore 9, 2) := by decide +kernel
theorem dX6_lay_78 : decode cX6_lay 78 = .ok (.iload 9, 2) := by decide +kernel
theorem dX6_lay_80 : decode cX6_lay 80 = .ok (.ifCond .lt 36, 3) := by decide +kernel
theorem dX6_lay_83 : decode cX6_lay 83 = .ok (.iload 5, 2) := by decide +kernel
theorem dX6_lay_85 : decode cX6_lay 85 = .ok (.iload 4, 2) := by decide +kernel
theorem dX6_lay_87 : decode cX6_lay 87 = .ok (.iadd, 1) := by decide +kernel
theorem dX6_lay_88 : decode cX6_lay 88 = .ok (.iconst 1, 1) := by decide +kernel
theorem dX6_lay_89 : decode cX6_lay 89 = .ok (.isub, 1) := by decide +kernel
theorem dX6_lay_90 : decode cX6_lay 90 = .ok (.iload 6, 2) := by decide +kernel
theorem dX6_lay_92 : decode cX6_lay 92 = .ok (.invokestatic 107, 3) := by decide +kernel
theorem dX6_lay_95 : decode cX6_lay 95 = .ok (.ifCond .lt 21, 3) := by decide +kernel
theorem dX6_lay_98 : decode cX6_lay 98 = .ok (.aload 7, 2) := by decide +kernel
theorem dX6_lay_100 : decode cX6_lay 100 = .ok (.iload_n 3, 1) := by decide +kernel
theorem dX6_lay_101 : decode cX6_lay 101 = .ok (.iload 4, 2) := by decide +kernel
theorem dX6_lay_103 : decode cX6_lay 103 = .ok (.aload_n 0, 1) := by decide +kernel
theorem dX6_lay_104 : decode cX6_lay 104 = .ok (.getfield 12, 3) := by decide +kernel
theorem dX6_lay_107 : decode cX6_lay 107 = .ok (.getfield 90, 3) := by decide +kernel
theorem dX6_lay_110 : decode cX6_lay 110 = .ok (.invokevirtual 236, 3) := by decide +kernel
theorem dX6_lay_113 : decode cX6_lay 113 = .ok (.ifCond .ne 5, 3) := by decide +kernel
theorem dX6_lay_116 : decode cX6_lay 116 = .ok (.iconst (-1), 1) := by decide +kernel
theorem dX6_lay_117 : decode cX6_lay 117 = .ok (.ireturn, 1) := by decide +kernel
theorem dX6_lay_118 : decode cX6_lay 118 = .ok (.aload 7, 2) := by decide +kernel
theorem dX6_lay_120 : decode cX6_lay 120 = .ok (.getfield 230, 3) := by decide +kernel
theorem dX6_lay_123 : decode cX6_lay 123 = .ok (.iload_n 3, 1) := by decide +kernel
theorem dX6_lay_124 : decode cX6_lay 124 = .ok (.aload_n 0, 1) := by decide +kernel
theorem dX6_lay_125 : decode cX6_lay 125 = .ok (.getfield 12, 3) := by decide +kernel
theorem dX6_lay_128 : decode cX6_lay 128 = .ok (.getfield 111, 3) := by decide +kernel
theorem dX6_lay_131 : decode cX6_lay 131 = .ok (.iload 9, 2) := by decide +kernel
theorem dX6_lay_133 : decode cX6_lay 133 = .ok (.iload 4, 2) := by decide +kernel
theorem dX6_lay_135 : decode cX6_lay 135 = .ok (.invokestatic 239, 3) := by decide +kernel
theorem dX6_lay_138 : decode cX6_lay 138 = .ok (.aload_n 0, 1) := by decide +kernel
theorem dX6_lay_139 : decode cX6_lay 139 = .ok (.getfield 44, 3) := by decide +kernel
theorem dX6_lay_142 : decode cX6_lay 142 = .ok (.invokevirtual 96, 3) := by decide +kernel
theorem dX6_lay_145 : decode cX6_lay 145 = .ok (.iload 4, 2) := by decide +kernel
theorem dX6_lay_147 : decode cX6_lay 147 = .ok (.ireturn, 1) := by decide +kernel
set_option maxRecDepth 20000 in
theorem ggX6_copy_X6_isSheet : GoodIn wsX6_copy wsX6_isSheet := goodIn_r _ [11, 12, 13, 10, 14] (by decide +kernel) (by decide +kernel)
set_option maxRecDepth 20000 in
theorem gX6_copy_X6_isSheet : GoodIn wsX6_copy (va_wsS RX6 209 yX6_isSheet wsX6_isSheet) := goodIn_app (goodIn_of _ (by decide +kernel)) ggX6_copy_X6_isSheet
set_option maxRecDepth 20000 in
theorem ggX6_copy_X5_isNothing : GoodIn wsX6_copy wsX5_isNothing := goodIn_r _ [19, 20, 35, 36, 37] (by decide +kernel) (by decide +kernel)
set_option maxRecDepth 20000 in
theorem gX6_copy_X5_isNothing : GoodIn wsX6_copy (wsV RX6 218 RX5 yX5_isNothing wsX5_isNothing) := goodIn_app (goodIn_of _ (by decide +kernel)) ggX6_copy_X5_isNothing
set_option maxRecDepth 20000 in
theorem ggX6_copy_X5_hasItems : GoodIn wsX6_copy wsX5_hasItems := goodIn_r _ [24, 25, 35, 36, 37] (by decide +kernel) (by decide +kernel)
set_option maxRecDepth 20000 in
theorem gX6_copy_X5_hasItems : GoodIn wsX6_copy (wsV RX6 227 RX5 yX5_hasItems wsX5_hasItems) := goodIn_app (goodIn_of _ (by decide +kernel)) ggX6_copy_X5_hasItems
theorem dX6_copy_0 : decode cX6_copy 0 = .ok (.iload_n 1, 1) := by decide +kernel
theorem dX6_copy_1 : decode cX6_copy 1 = .ok (.invokestatic 209, 3) := by decide +kernel
theorem dX6_copy_4 : decode cX6_copy 4 = .ok (.ifCond .eq 10, 3) := by decide +kernel
theorem dX6_copy_7 : decode cX6_copy 7 = .ok (.iload_n 3, 1) := by decide +kernel
theorem dX6_copy_8 : decode cX6_copy 8 = .ok (.invokestatic 209, 3) := by decide +kernel
theorem dX6_copy_11 : decode cX6_copy 11 = .ok (.ifCond .ne 5, 3) := by decide +kernel
theorem dX6_copy_14 : decode cX6_copy 14 = .ok (.iconst (-1), 1) := by decide +kernel
theorem dX6_copy_15 : decode cX6_copy 15 = .ok (.ireturn, 1) := by decide +kernel
theorem dX6_copy_16 : decode cX6_copy 16 = .ok (.aload_n 0, 1) := by decide +kernel
theorem dX6_copy_17 : decode cX6_copy 17 = .ok (.getfield 50, 3) := by decide +kernel
theorem dX6_copy_20 : decode cX6_copy 20 = .ok (.iload_n 1, 1) := by decide +kernel
theorem dX6_copy_21 : decode cX6_copy 21 = .ok (.aaload, 1) := by decide +kernel
theorem dX6_copy_22 : decode cX6_copy 22 = .ok (.astore 6, 2) := by decide +kernel
theorem dX6_copy_24 : decode cX6_copy 24 = .ok (.aload_n 0, 1) := by decide +kernel
theorem dX6_copy_25 : decode cX6_copy 25 = .ok (.getfield 50, 3) := by decide +kernel
theorem dX6_copy_28 : decode cX6_copy 28 = .ok (.iload_n 3, 1) := by decide +kernel
theorem dX6_copy_29 : decode cX6_copy 29 = .ok (.aaload, 1) := by decide +kernel
theorem dX6_copy_30 : decode cX6_copy 30 = .ok (.astore 7, 2) := by decide +kernel
theorem dX6_copy_32 : decode cX6_copy 32 = .ok (.aload 6, 2) := by decide +kernel
theorem dX6_copy_34 : decode cX6_copy 34 = .ok (.invokevirtual 218, 3) := by decide +kernel
theorem dX6_copy_37 : decode cX6_copy 37 = .ok (.ifCond .ne 11, 3) := by decide +kernel
theorem dX6_copy_40 : decode cX6_copy 40 = .ok (.aload 7, 2) := by decide +kernel
theorem dX6_copy_42 : decode cX6_copy 42 = .ok (.invokevirtual 218, 3) := by decide +kernel
theorem dX6_copy_45 : decode cX6_copy 45 = .ok (.ifCond .eq 6, 3) := by decide +kernel
theorem dX6_copy_48 : decode cX6_copy 48 = .ok (.bipush (-11), 2) := by decide +kernel
theorem dX6_copy_50 : decode cX6_copy 50 = .ok (.ireturn, 1) := by decide +kernel
theorem dX6_copy_51 : decode cX6_copy 51 = .ok (.aload 6, 2) := by decide +kernel
theorem dX6_copy_53 : decode cX6_copy 53 = .ok (.getfield 245, 3) := by decide +kernel
theorem dX6_copy_56 : decode cX6_copy 56 = .ok (.aload 7, 2) := by decide +kernel
theorem dX6_copy_58 : decode cX6_copy 58 = .ok (.getfield 245, 3) := by decide +kernel
theorem dX6_copy_61 : decode cX6_copy 61 = .ok (.if_icmp .eq 6, 3) := by decide +kernel
theorem dX6_copy_64 : decode cX6_copy 64 = .ok (.bipush (-12), 2) := by decide +kernel
theorem dX6_copy_66 : decode cX6_copy 66 = .ok (.ireturn, 1) := by decide +kernel
theorem dX6_copy_67 : decode cX6_copy 67 = .ok (.aload 6, 2) := by decide +kernel
theorem dX6_copy_69 : decode cX6_copy 69 = .ok (.iload_n 2, 1) := by decide +kernel
theorem dX6_copy_70 : decode cX6_copy 70 = .ok (.iload 5, 2) := by decide +kernel
theorem dX6_copy_72 : decode cX6_copy 72 = .ok (.invokevirtual 227, 3) := by decide +kernel
theorem dX6_copy_75 : decode cX6_copy 75 = .ok (.ifCond .eq 15, 3) := by decide +kernel
theorem dX6_copy_78 : decode cX6_copy 78 = .ok (.aload 7, 2) := by decide +kernel
theorem dX6_copy_80 : decode cX6_copy 80 = .ok (.iload 4, 2) := by decide +kernel
theorem dX6_copy_82 : decode cX6_copy 82 = .ok (.iload 5, 2) := by decide +kernel
theorem dX6_copy_84 : decode cX6_copy 84 = .ok (.invokevirtual 227, 3) := by decide +kernel
theorem dX6_copy_87 : decode cX6_copy 87 = .ok (.ifCond .ne 6, 3) := by decide +kernel
theorem dX6_copy_90 : decode cX6_copy 90 = .ok (.bipush (-13), 2) := by decide +kernel
theorem dX6_copy_92 : decode cX6_copy 92 = .ok (.ireturn, 1) := by decide +kernel
theorem dX6_copy_93 : decode cX6_copy 93 = .ok (.aload 6, 2) := by decide +kernel
theorem dX6_copy_95 : decode cX6_copy 95 = .ok (.getfield 230, 3) := by decide +kernel
theorem dX6_copy_98 : decode cX6_copy 98 = .ok (.iload_n 2, 1) := by decide +kernel
theorem dX6_copy_99 : decode cX6_copy 99 = .ok (.aload 7, 2) := by decide +kernel
theorem dX6_copy_101 : decode cX6_copy 101 = .ok (.getfield 230, 3) := by decide +kernel
theorem dX6_copy_104 : decode cX6_copy 104 = .ok (.iload 4, 2) := by decide +kernel
theorem dX6_copy_106 : decode cX6_copy 106 = .ok (.iload 5, 2) := by decide +kernel
theorem dX6_copy_108 : decode cX6_copy 108 = .ok (.invokestatic 239, 3) := by decide +kernel
theorem dX6_copy_111 : decode cX6_copy 111 = .ok (.iload 5, 2) := by decide +kernel
theorem dX6_copy_113 : decode cX6_copy 113 = .ok (.ireturn, 1) := by decide +kernel
theorem dX6_isWithin_0 : decode cX6_isWithin 0 = .ok (.iload_n 0, 1) := by decide +kernel
theorem dX6_isWithin_1 : decode cX6_isWithin 1 = .ok (.iload_n 1, 1) := by decide +kernel
theorem dX6_isWithin_2 : decode cX6_isWithin 2 = .ok (.if_icmp .lt 12, 3) := by decide +kernel
theorem dX6_isWithin_5 : decode cX6_isWithin 5 = .ok (.iload_n 0, 1) := by decide +kernel
theorem dX6_isWithin_6 : decode cX6_isWithin 6 = .ok (.iload_n 2, 1) := by decide +kernel
theorem dX6_isWithin_7 : decode cX6_isWithin 7 = .ok (.if_icmp .gt 7, 3) := by decide +kernel
theorem dX6_isWithin_10 : decode cX6_isWithin 10 = .ok (.iconst 1, 1) := by decide +kernel
theorem dX6_isWithin_11 : decode cX6_isWithin 11 = .ok (.goto 4, 3) := by decide +kernel
theorem dX6_isWithin_14 : decode cX6_isWithin 14 = .ok (.iconst 0, 1) := by decide +kernel
theorem dX6_isWithin_15 : decode cX6_isWithin 15 = .ok (.ireturn, 1) := by decide +kernel
theorem dX6_isOn_0 : decode cX6_isOn 0 = .ok (.iload_n 0, 1) := by decide +kernel
theorem dX6_isOn_1 : decode cX6_isOn 1 = .ok (.bipush (-120), 2) := by decide +kernel
theorem dX6_isOn_3 : decode cX6_isOn 3 = .ok (.if_icmp .lt 25, 3) := by decide +kernel
theorem dX6_isOn_6 : decode cX6_isOn 6 = .ok (.iload_n 0, 1) := by decide +kernel
theorem dX6_isOn_7 : decode cX6_isOn 7 = .ok (.bipush 119, 2) := by decide +kernel
theorem dX6_isOn_9 : decode cX6_isOn 9 = .ok (.if_icmp .gt 19, 3) := by decide +kernel
theorem dX6_isOn_12 : decode cX6_isOn 12 = .ok (.iload_n 1, 1) := by decide +kernel
theorem dX6_isOn_13 : decode cX6_isOn 13 = .ok (.bipush (-120), 2) := by decide +kernel
theorem dX6_isOn_15 : decode cX6_isOn 15 = .ok (.if_icmp .lt 13, 3) := by decide +kernel
theorem dX6_isOn_18 : decode cX6_isOn 18 = .ok (.iload_n 1, 1) := by decide +kernel
theorem dX6_isOn_19 : decode cX6_isOn 19 = .ok (.bipush 119, 2) := by decide +kernel
theorem dX6_isOn_21 : decode cX6_isOn 21 = .ok (.if_icmp .gt 7, 3) := by decide +kernel
theorem dX6_isOn_24 : decode cX6_isOn 24 = .ok (.iconst 1, 1) := by decide +kernel
theorem dX6_isOn_25 : decode cX6_isOn 25 = .ok (.goto 4, 3) := by decide +kernel
theorem dX6_isOn_28 : decode cX6_isOn 28 = .ok (.iconst 0, 1) := by decide +kernel
theorem dX6_isOn_29 : decode cX6_isOn 29 = .ok (.ireturn, 1) := by decide +kernel
set_option maxRecDepth 20000 in
theorem ggX6_isRule_X6_isWithin : GoodIn wsX6_isRule wsX6_isWithin := goodIn_r _ [4] (by decide +kernel) (by decide +kernel)
set_option maxRecDepth 20000 in
theorem gX6_isRule_X6_isWithin : GoodIn wsX6_isRule (va_wsS RX6 63 yX6_isWithin wsX6_isWithin) := goodIn_app (goodIn_of _ (by decide +kernel)) ggX6_isRule_X6_isWithin
theorem dX6_isRule_0 : decode cX6_isRule 0 = .ok (.iload_n 0, 1) := by decide +kernel
theorem dX6_isRule_1 : decode cX6_isRule 1 = .ok (.iconst 0, 1) := by decide +kernel
theorem dX6_isRule_2 : decode cX6_isRule 2 = .ok (.iconst 3, 1) := by decide +kernel
theorem dX6_isRule_3 : decode cX6_isRule 3 = .ok (.invokestatic 63, 3) := by decide +kernel
theorem dX6_isRule_6 : decode cX6_isRule 6 = .ok (.ireturn, 1) := by decide +kernel
set_option maxRecDepth 20000 in
theorem ggX6_isSheet_X6_isWithin : GoodIn wsX6_isSheet wsX6_isWithin := goodIn_r _ [4] (by decide +kernel) (by decide +kernel)
set_option maxRecDepth 20000 in
theorem gX6_isSheet_X6_isWithin : GoodIn wsX6_isSheet (va_wsS RX6 63 yX6_isWithin wsX6_isWithin) := goodIn_app (goodIn_of _ (by decide +kernel)) ggX6_isSheet_X6_isWithin
theorem dX6_isSheet_0 : decode cX6_isSheet 0 = .ok (.iload_n 0, 1) := by decide +kernel
theorem dX6_isSheet_1 : decode cX6_isSheet 1 = .ok (.iconst 0, 1) := by decide +kernel
theorem dX6_isSheet_2 : decode cX6_isSheet 2 = .ok (.iconst 3, 1) := by decide +kernel
theorem dX6_isSheet_3 : decode cX6_isSheet 3 = .ok (.invokestatic 63, 3) := by decide +kernel
theorem dX6_isSheet_6 : decode cX6_isSheet 6 = .ok (.ireturn, 1) := by decide +kernel
set_option maxRecDepth 20000 in
theorem ggX6_isLane_X6_isWithin : GoodIn wsX6_isLane wsX6_isWithin := goodIn_r _ [4] (by decide +kernel) (by decide +kernel)
set_option maxRecDepth 20000 in
theorem gX6_isLane_X6_isWithin : GoodIn wsX6_isLane (va_wsS RX6 63 yX6_isWithin wsX6_isWithin) := goodIn_app (goodIn_of _ (by decide +kernel)) ggX6_isLane_X6_isWithin
theorem dX6_isLane_0 : decode cX6_isLane 0 = .ok (.iload_n 0, 1) := by decide +kernel
theorem dX6_isLane_1 : decode cX6_isLane 1 = .ok (.iconst 0, 1) := by decide +kernel
theorem dX6_isLane_2 : decode cX6_isLane 2 = .ok (.iconst 2, 1) := by decide +kernel
theorem dX6_isLane_3 : decode cX6_isLane 3 = .ok (.invokestatic 63, 3) := by decide +kernel
theorem dX6_isLane_6 : decode cX6_isLane 6 = .ok (.ireturn, 1) := by decide +kernel
set_option maxRecDepth 20000 in
theorem ggX6_placeOf_X6_isOn : GoodIn wsX6_placeOf wsX6_isOn := goodIn_r _ [4] (by decide +kernel) (by decide +kernel)
set_option maxRecDepth 20000 in
theorem gX6_placeOf_X6_isOn : GoodIn wsX6_placeOf (va_wsS RX6 99 yX6_isOn wsX6_isOn) := goodIn_app (goodIn_of _ (by decide +kernel)) ggX6_placeOf_X6_isOn
theorem dX6_placeOf_0 : decode cX6_placeOf 0 = .ok (.iload_n 0, 1) := by decide +kernel
theorem dX6_placeOf_1 : decode cX6_placeOf 1 = .ok (.iload_n 1, 1) := by decide +kernel
theorem dX6_placeOf_2 : decode cX6_placeOf 2 = .ok (.invokestatic 99, 3) := by decide +kernel
theorem dX6_placeOf_5 : decode cX6_placeOf 5 = .ok (.ifCond .eq 19, 3) := by decide +kernel
theorem dX6_placeOf_8 : decode cX6_placeOf 8 = .ok (.iload_n 1, 1) := by decide +kernel
theorem dX6_placeOf_9 : decode cX6_placeOf 9 = .ok (.bipush (-120), 2) := by decide +kernel
theorem dX6_placeOf_11 : decode cX6_placeOf 11 = .ok (.isub, 1) := by decide +kernel
theorem dX6_placeOf_12 : decode cX6_placeOf 12 = .ok (.sipush 240, 3) := by decide +kernel
theorem dX6_placeOf_15 : decode cX6_placeOf 15 = .ok (.imul, 1) := by decide +kernel
theorem dX6_placeOf_16 : decode cX6_placeOf 16 = .ok (.iload_n 0, 1) := by decide +kernel
theorem dX6_placeOf_17 : decode cX6_placeOf 17 = .ok (.bipush (-120), 2) := by decide +kernel
theorem dX6_placeOf_19 : decode cX6_placeOf 19 = .ok (.isub, 1) := by decide +kernel
theorem dX6_placeOf_20 : decode cX6_placeOf 20 = .ok (.iadd, 1) := by decide +kernel
theorem dX6_placeOf_21 : decode cX6_placeOf 21 = .ok (.goto 4, 3) := by decide +kernel
theorem dX6_placeOf_24 : decode cX6_placeOf 24 = .ok (.iconst (-1), 1) := by decide +kernel
theorem dX6_placeOf_25 : decode cX6_placeOf 25 = .ok (.ireturn, 1) := by decide +kernel
set_option maxRecDepth 20000 in
theorem ggX6_colourIn_X6_placeOf : GoodIn wsX6_colourIn wsX6_placeOf := goodIn_r _ [4, 5, 6, 3, 7] (by decide +kernel) (by decide +kernel)
set_option maxRecDepth 20000 in
theorem gX6_colourIn_X6_placeOf : GoodIn wsX6_colourIn (va_wsS RX6 107 yX6_placeOf wsX6_placeOf) := goodIn_app (goodIn_of _ (by decide +kernel)) ggX6_colourIn_X6_placeOf
theorem dX6_colourIn_0 : decode cX6_colourIn 0 = .ok (.iload_n 1, 1) := by decide +kernel
theorem dX6_colourIn_1 : decode cX6_colourIn 1 = .ok (.iload_n 2, 1) := by decide +kernel
theorem dX6_colourIn_2 : decode cX6_colourIn 2 = .ok (.invokestatic 107, 3) := by decide +kernel
theorem dX6_colourIn_5 : decode cX6_colourIn 5 = .ok (.istore_n 3, 1) := by decide +kernel
theorem dX6_colourIn_6 : decode cX6_colourIn 6 = .ok (.iload_n 3, 1) := by decide +kernel
theorem dX6_colourIn_7 : decode cX6_colourIn 7 = .ok (.ifCond .ge 7, 3) := by decide +kernel
theorem dX6_colourIn_10 : decode cX6_colourIn 10 = .ok (.iconst 0, 1) := by decide +kernel
theorem dX6_colourIn_11 : decode cX6_colourIn 11 = .ok (.goto 6, 3) := by decide +kernel
theorem dX6_colourIn_14 : decode cX6_colourIn 14 = .ok (.aload_n 0, 1) := by decide +kernel
theorem dX6_colourIn_15 : decode cX6_colourIn 15 = .ok (.iload_n 3, 1) := by decide +kernel
theorem dX6_colourIn_16 : decode cX6_colourIn 16 = .ok (.iaload, 1) := by decide +kernel
theorem dX6_colourIn_17 : decode cX6_colourIn 17 = .ok (.ireturn, 1) := by decide +kernel
theorem dX6_howMany_0 : decode cX6_howMany 0 = .ok (.iconst 0, 1) := by decide +kernel
theorem dX6_howMany_1 : decode cX6_howMany 1 = .ok (.istore_n 2, 1) := by decide +kernel
theorem dX6_howMany_2 : decode cX6_howMany 2 = .ok (.iconst 0, 1) := by decide +kernel
theorem dX6_howMany_3 : decode cX6_howMany 3 = .ok (.istore_n 3, 1) := by decide +kernel
theorem dX6_howMany_4 : decode cX6_howMany 4 = .ok (.iload_n 3, 1) := by decide +kernel
theorem dX6_howMany_5 : decode cX6_howMany 5 = .ok (.aload_n 0, 1) := by decide +kernel
theorem dX6_howMany_6 : decode cX6_howMany 6 = .ok (.arraylength, 1) := by decide +kernel
theorem dX6_howMany_7 : decode cX6_howMany 7 = .ok (.if_icmp .ge 19, 3) := by decide +kernel
theorem dX6_howMany_10 : decode cX6_howMany 10 = .ok (.aload_n 0, 1) := by decide +kernel
theorem dX6_howMany_11 : decode cX6_howMany 11 = .ok (.iload_n 3, 1) := by decide +kernel
theorem dX6_howMany_12 : decode cX6_howMany 12 = .ok (.iaload, 1) := by decide +kernel
theorem dX6_howMany_13 : decode cX6_howMany 13 = .ok (.iload_n 1, 1) := by decide +kernel
theorem dX6_howMany_14 : decode cX6_howMany 14 = .ok (.if_icmp .ne 6, 3) := by decide +kernel
theorem dX6_howMany_17 : decode cX6_howMany 17 = .ok (.iinc 2 1, 3) := by decide +kernel
theorem dX6_howMany_20 : decode cX6_howMany 20 = .ok (.iinc 3 1, 3) := by decide +kernel
theorem dX6_howMany_23 : decode cX6_howMany 23 = .ok (.goto (-19), 3) := by decide +kernel
theorem dX6_howMany_26 : decode cX6_howMany 26 = .ok (.iload_n 2, 1) := by decide +kernel
theorem dX6_howMany_27 : decode cX6_howMany 27 = .ok (.ireturn, 1) := by decide +kernel
theorem dX6_boundOr_0 : decode cX6_boundOr 0 = .ok (.iload_n 0, 1) := by decide +kernel
theorem dX6_boundOr_1 : decode cX6_boundOr 1 = .ok (.ifCond .ge 9, 3) := by decide +kernel
theorem dX6_boundOr_4 : decode cX6_boundOr 4 = .ok (.sipush (-1001), 3) := by decide +kernel
theorem dX6_boundOr_7 : decode cX6_boundOr 7 = .ok (.goto 7, 3) := by decide +kernel
theorem dX6_boundOr_10 : decode cX6_boundOr 10 = .ok (.iload_n 0, 1) := by decide +kernel
theorem dX6_boundOr_11 : decode cX6_boundOr 11 = .ok (.bipush (-120), 2) := by decide +kernel
theorem dX6_boundOr_13 : decode cX6_boundOr 13 = .ok (.iadd, 1) := by decide +kernel
theorem dX6_boundOr_14 : decode cX6_boundOr 14 = .ok (.ireturn, 1) := by decide +kernel
set_option maxRecDepth 20000 in
theorem ggX6_stepAhead_X6_placeOf : GoodIn wsX6_stepAhead wsX6_placeOf := goodIn_r _ [11, 12, 13, 10, 14] (by decide +kernel) (by decide +kernel)
set_option maxRecDepth 20000 in
theorem gX6_stepAhead_X6_placeOf : GoodIn wsX6_stepAhead (va_wsS RX6 107 yX6_placeOf wsX6_placeOf) := goodIn_app (goodIn_of _ (by decide +kernel)) ggX6_stepAhead_X6_placeOf
set_option maxRecDepth 20000 in
theorem ggX6_stepAhead_X6_act : GoodIn wsX6_stepAhead wsX6_act := goodIn_r _ [18, 4, 5, 19, 20, 21, 22, 23, 24, 25, 26, 8, 9, 10, 11, 12, 13, 14, 27, 28, 29, 30, 31, 32, 33, 34, 35, 36, 37, 38, 39, 40, 41, 42, 43, 44, 45, 46, 47, 48, 49, 50, 51, 52, 53, 98, 99, 100, 101, 89, 90, 91, 92, 93, 94, 95, 96, 97, 102, 103, 104, 105, 106, 107, 108] (by decide +kernel) (by decide +kernel)
set_option maxRecDepth 20000 in
theorem gX6_stepAhead_X6_act : GoodIn wsX6_stepAhead (wsV RX6 248 RX6 yX6_act wsX6_act) := goodIn_app (goodIn_of _ (by decide +kernel)) ggX6_stepAhead_X6_act
set_option maxRecDepth 20000 in
theorem ggX6_stepAhead_X6_takeBackActs : GoodIn wsX6_stepAhead wsX6_takeBackActs := goodIn_r _ [57, 3, 58, 59, 60, 10, 61, 4, 19, 21, 5, 20, 25, 22, 23, 24, 26, 37, 38, 39, 30, 40, 36, 41, 42, 43, 44, 8, 9, 11, 12, 13, 14, 27, 28, 29, 31, 32, 33, 34, 35, 45, 46, 47, 48, 49, 50, 51, 52, 53, 89, 90, 91, 92, 93, 94, 95, 96, 97, 98, 99, 100, 101, 102, 103, 104, 105, 106, 107, 108] (by decide +kernel) (by decide +kernel)
set_option maxRecDepth 20000 in
theorem gX6_stepAhead_X6_takeBackActs : GoodIn wsX6_stepAhead (wsV RX6 252 RX6 yX6_takeBackActs wsX6_takeBackActs) := goodIn_app (goodIn_of _ (by decide +kernel)) ggX6_stepAhead_X6_takeBackActs
set_option maxRecDepth 20000 in
theorem ggX6_stepAhead_X2_tread : GoodIn wsX6_stepAhead wsX2_tread := goodIn_r _ [66, 67, 68, 69, 109, 110, 111, 112, 113, 114, 115] (by decide +kernel) (by decide +kernel)
set_option maxRecDepth 20000 in
theorem gX6_stepAhead_X2_tread : GoodIn wsX6_stepAhead (wsV RX6 256 RX2 yX2_tread wsX2_tread) := goodIn_app (goodIn_of _ (by decide +kernel)) ggX6_stepAhead_X2_tread
set_option maxRecDepth 20000 in
theorem ggX6_stepAhead_X6_noteMeetings : GoodIn wsX6_stepAhead wsX6_noteMeetings := goodIn_r _ [73, 1, 74, 6, 3, 4, 5, 75, 76, 77, 10, 78, 79, 80, 81, 82, 83, 84, 85, 86, 87, 88, 89, 90, 91, 92, 93, 94, 95, 96, 97, 98, 99, 100, 101, 116, 117, 118, 119, 120] (by decide +kernel) (by decide +kernel)
set_option maxRecDepth 20000 in
theorem gX6_stepAhead_X6_noteMeetings : GoodIn wsX6_stepAhead (wsV RX6 260 RX6 yX6_noteMeetings wsX6_noteMeetings) := goodIn_app (goodIn_of _ (by decide +kernel)) ggX6_stepAhead_X6_noteMeetings
theorem dX6_stepAhead_0 : decode cX6_stepAhead 0 = .ok (.iconst 0, 1) := by decide +kernel
theorem dX6_stepAhead_1 : decode cX6_stepAhead 1 = .ok (.istore_n 1, 1) := by decide +kernel
theorem dX6_stepAhead_2 : decode cX6_stepAhead 2 = .ok (.iload_n 1, 1) := by decide +kernel
theorem dX6_stepAhead_3 : decode cX6_stepAhead 3 = .ok (.aload_n 0, 1) := by decide +kernel
theorem dX6_stepAhead_4 : decode cX6_stepAhead 4 = .ok (.getfield 67, 3) := by decide +kernel
theorem dX6_stepAhead_7 : decode cX6_stepAhead 7 = .ok (.if_icmp .ge 56, 3) := by decide +kernel
theorem dX6_stepAhead_10 : decode cX6_stepAhead 10 = .ok (.aload_n 0, 1) := by decide +kernel
theorem dX6_stepAhead_11 : decode cX6_stepAhead 11 = .ok (.getfield 30, 3) := by decide +kernel
theorem dX6_stepAhead_14 : decode cX6_stepAhead 14 = .ok (.iload_n 1, 1) := by decide +kernel
theorem dX6_stepAhead_15 : decode cX6_stepAhead 15 = .ok (.aload_n 0, 1) := by decide +kernel
theorem dX6_stepAhead_16 : decode cX6_stepAhead 16 = .ok (.getfield 25, 3) := by decide +kernel
theorem dX6_stepAhead_19 : decode cX6_stepAhead 19 = .ok (.iload_n 1, 1) := by decide +kernel
theorem dX6_stepAhead_20 : decode cX6_stepAhead 20 = .ok (.aaload, 1) := by decide +kernel
theorem dX6_stepAhead_21 : decode cX6_stepAhead 21 = .ok (.getfield 114, 3) := by decide +kernel
theorem dX6_stepAhead_24 : decode cX6_stepAhead 24 = .ok (.aload_n 0, 1) := by decide +kernel
theorem dX6_stepAhead_25 : decode cX6_stepAhead 25 = .ok (.getfield 25, 3) := by decide +kernel
theorem dX6_stepAhead_28 : decode cX6_stepAhead 28 = .ok (.iload_n 1, 1) := by decide +kernel
theorem dX6_stepAhead_29 : decode cX6_stepAhead 29 = .ok (.aaload, 1) := by decide +kernel
theorem dX6_stepAhead_30 : decode cX6_stepAhead 30 = .ok (.getfield 117, 3) := by decide +kernel
theorem dX6_stepAhead_33 : decode cX6_stepAhead 33 = .ok (.invokestatic 107, 3) := by decide +kernel
theorem dX6_stepAhead_36 : decode cX6_stepAhead 36 = .ok (.iastore, 1) := by decide +kernel
theorem dX6_stepAhead_37 : decode cX6_stepAhead 37 = .ok (.aload_n 0, 1) := by decide +kernel
theorem dX6_stepAhead_38 : decode cX6_stepAhead 38 = .ok (.aload_n 0, 1) := by decide +kernel
theorem dX6_stepAhead_39 : decode cX6_stepAhead 39 = .ok (.getfield 25, 3) := by decide +kernel
theorem dX6_stepAhead_42 : decode cX6_stepAhead 42 = .ok (.iload_n 1, 1) := by decide +kernel
theorem dX6_stepAhead_43 : decode cX6_stepAhead 43 = .ok (.aaload, 1) := by decide +kernel
theorem dX6_stepAhead_44 : decode cX6_stepAhead 44 = .ok (.invokevirtual 248, 3) := by decide +kernel
theorem dX6_stepAhead_47 : decode cX6_stepAhead 47 = .ok (.ifCond .ne 10, 3) := by decide +kernel
theorem dX6_stepAhead_50 : decode cX6_stepAhead 50 = .ok (.aload_n 0, 1) := by decide +kernel
theorem dX6_stepAhead_51 : decode cX6_stepAhead 51 = .ok (.iload_n 1, 1) := by decide +kernel
theorem dX6_stepAhead_52 : decode cX6_stepAhead 52 = .ok (.invokevirtual 252, 3) := by decide +kernel
theorem dX6_stepAhead_55 : decode cX6_stepAhead 55 = .ok (.iconst 0, 1) := by decide +kernel
theorem dX6_stepAhead_56 : decode cX6_stepAhead 56 = .ok (.ireturn, 1) := by decide +kernel
theorem dX6_stepAhead_57 : decode cX6_stepAhead 57 = .ok (.iinc 1 1, 3) := by decide +kernel
theorem dX6_stepAhead_60 : decode cX6_stepAhead 60 = .ok (.goto (-58), 3) := by decide +kernel
theorem dX6_stepAhead_63 : decode cX6_stepAhead 63 = .ok (.aload_n 0, 1) := by decide +kernel
theorem dX6_stepAhead_64 : decode cX6_stepAhead 64 = .ok (.dup, 1) := by decide +kernel
theorem dX6_stepAhead_65 : decode cX6_stepAhead 65 = .ok (.getfield 76, 3) := by decide +kernel
theorem dX6_stepAhead_68 : decode cX6_stepAhead 68 = .ok (.iconst 1, 1) := by decide +kernel
theorem dX6_stepAhead_69 : decode cX6_stepAhead 69 = .ok (.iadd, 1) := by decide +kernel
theorem dX6_stepAhead_70 : decode cX6_stepAhead 70 = .ok (.putfield 76, 3) := by decide +kernel
theorem dX6_stepAhead_73 : decode cX6_stepAhead 73 = .ok (.aload_n 0, 1) := by decide +kernel
theorem dX6_stepAhead_74 : decode cX6_stepAhead 74 = .ok (.getfield 44, 3) := by decide +kernel
theorem dX6_stepAhead_77 : decode cX6_stepAhead 77 = .ok (.aload_n 0, 1) := by decide +kernel
theorem dX6_stepAhead_78 : decode cX6_stepAhead 78 = .ok (.getfield 30, 3) := by decide +kernel
theorem dX6_stepAhead_81 : decode cX6_stepAhead 81 = .ok (.aload_n 0, 1) := by decide +kernel
theorem dX6_stepAhead_82 : decode cX6_stepAhead 82 = .ok (.getfield 67, 3) := by decide +kernel
theorem dX6_stepAhead_85 : decode cX6_stepAhead 85 = .ok (.invokevirtual 256, 3) := by decide +kernel
theorem dX6_stepAhead_88 : decode cX6_stepAhead 88 = .ok (.aload_n 0, 1) := by decide +kernel
theorem dX6_stepAhead_89 : decode cX6_stepAhead 89 = .ok (.invokevirtual 260, 3) := by decide +kernel
theorem dX6_stepAhead_92 : decode cX6_stepAhead 92 = .ok (.iconst 1, 1) := by decide +kernel
theorem dX6_stepAhead_93 : decode cX6_stepAhead 93 = .ok (.ireturn, 1) := by decide +kernel
set_option maxRecDepth 20000 in
theorem ggX6_stepBack_X6_actBack : GoodIn wsX6_stepBack wsX6_actBack := goodIn_r _ [9, 10, 11, 12, 13, 14, 15, 16, 17, 18, 19, 20, 21, 22, 23, 24, 25, 26, 27, 28, 29, 30, 31, 8, 32, 33, 34, 35, 36, 37, 38, 39, 40, 41, 42, 43, 44, 45, 46, 47, 48, 49, 50, 51, 52, 76, 77, 78, 79, 67, 68, 69, 70, 71, 72, 73, 74, 75, 80, 81, 82, 83, 84, 85, 86] (by decide +kernel) (by decide +kernel)
set_option maxRecDepth 20000 in
theorem gX6_stepBack_X6_actBack : GoodIn wsX6_stepBack (wsV RX6 263 RX6 yX6_actBack wsX6_actBack) := goodIn_app (goodIn_of _ (by decide +kernel)) ggX6_stepBack_X6_actBack
set_option maxRecDepth 20000 in
theorem ggX6_stepBack_X6_redoActs : GoodIn wsX6_stepBack wsX6_redoActs := goodIn_r _ [56, 1, 2, 57, 58, 59, 8, 60, 10, 13, 11, 14, 12, 16, 17, 18, 15, 19, 30, 31, 32, 33, 34, 35, 36, 37, 38, 23, 39, 40, 41, 42, 43, 25, 20, 21, 22, 24, 26, 27, 28, 29, 44, 45, 46, 47, 48, 49, 50, 51, 52, 67, 68, 69, 70, 71, 72, 73, 74, 75, 76, 77, 78, 79, 80, 81, 82, 83, 84, 85, 86] (by decide +kernel) (by decide +kernel)
set_option maxRecDepth 20000 in
theorem gX6_stepBack_X6_redoActs : GoodIn wsX6_stepBack (wsV RX6 266 RX6 yX6_redoActs wsX6_redoActs) := goodIn_app (goodIn_of _ (by decide +kernel)) ggX6_stepBack_X6_redoActs
set_option maxRecDepth 20000 in
theorem ggX6_stepBack_X2_spoil : GoodIn wsX6_stepBack wsX2_spoil := goodIn_r _ [65, 66, 87, 88, 89, 90, 91, 92, 93] (by decide +kernel) (by decide +kernel)
set_option maxRecDepth 20000 in
theorem gX6_stepBack_X2_spoil : GoodIn wsX6_stepBack (wsV RX6 96 RX2 yX2_spoil wsX2_spoil) := goodIn_app (goodIn_of _ (by decide +kernel)) ggX6_stepBack_X2_spoil
theorem dX6_stepBack_0 : decode cX6_stepBack 0 = .ok (.aload_n 0, 1) := by decide +kernel
theorem dX6_stepBack_1 : decode cX6_stepBack 1 = .ok (.getfield 67, 3) := by decide +kernel
theorem dX6_stepBack_4 : decode cX6_stepBack 4 = .ok (.iconst 1, 1) := by decide +kernel
theorem dX6_stepBack_5 : decode cX6_stepBack 5 = .ok (.isub, 1) := by decide +kernel
theorem dX6_stepBack_6 : decode cX6_stepBack 6 = .ok (.istore_n 1, 1) := by decide +kernel
theorem dX6_stepBack_7 : decode cX6_stepBack 7 = .ok (.iload_n 1, 1) := by decide +kernel
theorem dX6_stepBack_8 : decode cX6_stepBack 8 = .ok (.ifCond .lt 31, 3) := by decide +kernel
theorem dX6_stepBack_11 : decode cX6_stepBack 11 = .ok (.aload_n 0, 1) := by decide +kernel
theorem dX6_stepBack_12 : decode cX6_stepBack 12 = .ok (.aload_n 0, 1) := by decide +kernel
theorem dX6_stepBack_13 : decode cX6_stepBack 13 = .ok (.getfield 25, 3) := by decide +kernel
theorem dX6_stepBack_16 : decode cX6_stepBack 16 = .ok (.iload_n 1, 1) := by decide +kernel
theorem dX6_stepBack_17 : decode cX6_stepBack 17 = .ok (.aaload, 1) := by decide +kernel
theorem dX6_stepBack_18 : decode cX6_stepBack 18 = .ok (.invokevirtual 263, 3) := by decide +kernel
theorem dX6_stepBack_21 : decode cX6_stepBack 21 = .ok (.ifCond .ne 12, 3) := by decide +kernel
theorem dX6_stepBack_24 : decode cX6_stepBack 24 = .ok (.aload_n 0, 1) := by decide +kernel
theorem dX6_stepBack_25 : decode cX6_stepBack 25 = .ok (.iload_n 1, 1) := by decide +kernel
theorem dX6_stepBack_26 : decode cX6_stepBack 26 = .ok (.iconst 1, 1) := by decide +kernel
theorem dX6_stepBack_27 : decode cX6_stepBack 27 = .ok (.iadd, 1) := by decide +kernel
theorem dX6_stepBack_28 : decode cX6_stepBack 28 = .ok (.invokevirtual 266, 3) := by decide +kernel
theorem dX6_stepBack_31 : decode cX6_stepBack 31 = .ok (.iconst 0, 1) := by decide +kernel
theorem dX6_stepBack_32 : decode cX6_stepBack 32 = .ok (.ireturn, 1) := by decide +kernel
theorem dX6_stepBack_33 : decode cX6_stepBack 33 = .ok (.iinc 1 (-1), 3) := by decide +kernel
theorem dX6_stepBack_36 : decode cX6_stepBack 36 = .ok (.goto (-29), 3) := by decide +kernel
theorem dX6_stepBack_39 : decode cX6_stepBack 39 = .ok (.aload_n 0, 1) := by decide +kernel
theorem dX6_stepBack_40 : decode cX6_stepBack 40 = .ok (.dup, 1) := by decide +kernel
theorem dX6_stepBack_41 : decode cX6_stepBack 41 = .ok (.getfield 76, 3) := by decide +kernel
theorem dX6_stepBack_44 : decode cX6_stepBack 44 = .ok (.iconst 1, 1) := by decide +kernel
theorem dX6_stepBack_45 : decode cX6_stepBack 45 = .ok (.isub, 1) := by decide +kernel
theorem dX6_stepBack_46 : decode cX6_stepBack 46 = .ok (.putfield 76, 3) := by decide +kernel
theorem dX6_stepBack_49 : decode cX6_stepBack 49 = .ok (.aload_n 0, 1) := by decide +kernel
theorem dX6_stepBack_50 : decode cX6_stepBack 50 = .ok (.getfield 44, 3) := by decide +kernel
theorem dX6_stepBack_53 : decode cX6_stepBack 53 = .ok (.invokevirtual 96, 3) := by decide +kernel
theorem dX6_stepBack_56 : decode cX6_stepBack 56 = .ok (.iconst 1, 1) := by decide +kernel
theorem dX6_stepBack_57 : decode cX6_stepBack 57 = .ok (.ireturn, 1) := by decide +kernel
set_option maxRecDepth 20000 in
theorem ggX6_takeBackActs_X6_actBack : GoodIn wsX6_takeBackActs wsX6_actBack := goodIn_r _ [6, 7, 8, 9, 10, 11, 12, 13, 14, 15, 16, 17, 18, 19, 20, 21, 22, 23, 24, 25, 26, 27, 28, 5, 29, 30, 31, 32, 33, 34, 35, 36, 37, 38, 39, 40, 41, 42, 43, 44, 45, 46, 47, 48, 49, 59, 60, 61, 62, 50, 51, 52, 53, 54, 55, 56, 57, 58, 63, 64, 65, 66, 67, 68, 69] (by decide +kernel) (by decide +kernel)
set_option maxRecDepth 20000 in
theorem gX6_takeBackActs_X6_actBack : GoodIn wsX6_takeBackActs (wsV RX6 263 RX6 yX6_actBack wsX6_actBack) := goodIn_app (goodIn_of _ (by decide +kernel)) ggX6_takeBackActs_X6_actBack
theorem dX6_takeBackActs_0 : decode cX6_takeBackActs 0 = .ok (.iload_n 1, 1) := by decide +kernel
