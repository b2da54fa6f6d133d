theorem dX7_digest_76 : decode cX7_digest 76 = .ok (.i2l, 1) := by decide +kernel
theorem dX7_digest_77 : decode cX7_digest 77 = .ok (.ladd, 1) := by decide +kernel
theorem dX7_digest_78 : decode cX7_digest 78 = .ok (.lstore_n 1, 1) := by decide +kernel
theorem dX7_digest_79 : decode cX7_digest 79 = .ok (.ldc2_w 150, 3) := by decide +kernel
theorem dX7_digest_82 : decode cX7_digest 82 = .ok (.lload_n 1, 1) := by decide +kernel
theorem dX7_digest_83 : decode cX7_digest 83 = .ok (.lmul, 1) := by decide +kernel
theorem dX7_digest_84 : decode cX7_digest 84 = .ok (.aload_n 0, 1) := by decide +kernel
theorem dX7_digest_85 : decode cX7_digest 85 = .ok (.getfield 30, 3) := by decide +kernel
theorem dX7_digest_88 : decode cX7_digest 88 = .ok (.iload_n 3, 1) := by decide +kernel
theorem dX7_digest_89 : decode cX7_digest 89 = .ok (.iaload, 1) := by decide +kernel
theorem dX7_digest_90 : decode cX7_digest 90 = .ok (.i2l, 1) := by decide +kernel
theorem dX7_digest_91 : decode cX7_digest 91 = .ok (.ladd, 1) := by decide +kernel
theorem dX7_digest_92 : decode cX7_digest 92 = .ok (.lstore_n 1, 1) := by decide +kernel
theorem dX7_digest_93 : decode cX7_digest 93 = .ok (.ldc2_w 150, 3) := by decide +kernel
theorem dX7_digest_96 : decode cX7_digest 96 = .ok (.lload_n 1, 1) := by decide +kernel
theorem dX7_digest_97 : decode cX7_digest 97 = .ok (.lmul, 1) := by decide +kernel
theorem dX7_digest_98 : decode cX7_digest 98 = .ok (.aload_n 0, 1) := by decide +kernel
theorem dX7_digest_99 : decode cX7_digest 99 = .ok (.getfield 33, 3) := by decide +kernel
theorem dX7_digest_102 : decode cX7_digest 102 = .ok (.iload_n 3, 1) := by decide +kernel
theorem dX7_digest_103 : decode cX7_digest 103 = .ok (.iaload, 1) := by decide +kernel
theorem dX7_digest_104 : decode cX7_digest 104 = .ok (.i2l, 1) := by decide +kernel
theorem dX7_digest_105 : decode cX7_digest 105 = .ok (.ladd, 1) := by decide +kernel
theorem dX7_digest_106 : decode cX7_digest 106 = .ok (.lstore_n 1, 1) := by decide +kernel
theorem dX7_digest_107 : decode cX7_digest 107 = .ok (.ldc2_w 150, 3) := by decide +kernel
theorem dX7_digest_110 : decode cX7_digest 110 = .ok (.lload_n 1, 1) := by decide +kernel
theorem dX7_digest_111 : decode cX7_digest 111 = .ok (.lmul, 1) := by decide +kernel
theorem dX7_digest_112 : decode cX7_digest 112 = .ok (.aload_n 0, 1) := by decide +kernel
theorem dX7_digest_113 : decode cX7_digest 113 = .ok (.getfield 36, 3) := by decide +kernel
theorem dX7_digest_116 : decode cX7_digest 116 = .ok (.iload_n 3, 1) := by decide +kernel
theorem dX7_digest_117 : decode cX7_digest 117 = .ok (.iaload, 1) := by decide +kernel
theorem dX7_digest_118 : decode cX7_digest 118 = .ok (.i2l, 1) := by decide +kernel
theorem dX7_digest_119 : decode cX7_digest 119 = .ok (.ladd, 1) := by decide +kernel
theorem dX7_digest_120 : decode cX7_digest 120 = .ok (.lstore_n 1, 1) := by decide +kernel
theorem dX7_digest_121 : decode cX7_digest 121 = .ok (.iinc 3 1, 3) := by decide +kernel
theorem dX7_digest_124 : decode cX7_digest 124 = .ok (.goto (-67), 3) := by decide +kernel
theorem dX7_digest_127 : decode cX7_digest 127 = .ok (.lload_n 1, 1) := by decide +kernel
theorem dX7_digest_128 : decode cX7_digest 128 = .ok (.lreturn, 1) := by decide +kernel
theorem dX7_mark_0 : decode cX7_mark 0 = .ok (.aload_n 0, 1) := by decide +kernel
theorem dX7_mark_1 : decode cX7_mark 1 = .ok (.iconst 1, 1) := by decide +kernel
theorem dX7_mark_2 : decode cX7_mark 2 = .ok (.putfield 97, 3) := by decide +kernel
theorem dX7_mark_5 : decode cX7_mark 5 = .ok (.aload_n 0, 1) := by decide +kernel
theorem dX7_mark_6 : decode cX7_mark 6 = .ok (.iconst 0, 1) := by decide +kernel
theorem dX7_mark_7 : decode cX7_mark 7 = .ok (.putfield 110, 3) := by decide +kernel
theorem dX7_mark_10 : decode cX7_mark 10 = .ok (.aload_n 0, 1) := by decide +kernel
theorem dX7_mark_11 : decode cX7_mark 11 = .ok (.iconst 0, 1) := by decide +kernel
theorem dX7_mark_12 : decode cX7_mark 12 = .ok (.putfield 136, 3) := by decide +kernel
theorem dX7_mark_15 : decode cX7_mark 15 = .ok (.iconst 0, 1) := by decide +kernel
theorem dX7_mark_16 : decode cX7_mark 16 = .ok (.istore_n 1, 1) := by decide +kernel
theorem dX7_mark_17 : decode cX7_mark 17 = .ok (.iload_n 1, 1) := by decide +kernel
theorem dX7_mark_18 : decode cX7_mark 18 = .ok (.ldc 13, 2) := by decide +kernel
theorem dX7_mark_20 : decode cX7_mark 20 = .ok (.if_icmp .ge 28, 3) := by decide +kernel
theorem dX7_mark_23 : decode cX7_mark 23 = .ok (.aload_n 0, 1) := by decide +kernel
theorem dX7_mark_24 : decode cX7_mark 24 = .ok (.getfield 58, 3) := by decide +kernel
theorem dX7_mark_27 : decode cX7_mark 27 = .ok (.iload_n 1, 1) := by decide +kernel
theorem dX7_mark_28 : decode cX7_mark 28 = .ok (.aload_n 0, 1) := by decide +kernel
theorem dX7_mark_29 : decode cX7_mark 29 = .ok (.getfield 14, 3) := by decide +kernel
theorem dX7_mark_32 : decode cX7_mark 32 = .ok (.iload_n 1, 1) := by decide +kernel
theorem dX7_mark_33 : decode cX7_mark 33 = .ok (.iaload, 1) := by decide +kernel
theorem dX7_mark_34 : decode cX7_mark 34 = .ok (.iastore, 1) := by decide +kernel
theorem dX7_mark_35 : decode cX7_mark 35 = .ok (.aload_n 0, 1) := by decide +kernel
theorem dX7_mark_36 : decode cX7_mark 36 = .ok (.getfield 54, 3) := by decide +kernel
theorem dX7_mark_39 : decode cX7_mark 39 = .ok (.iload_n 1, 1) := by decide +kernel
theorem dX7_mark_40 : decode cX7_mark 40 = .ok (.iconst 0, 1) := by decide +kernel
theorem dX7_mark_41 : decode cX7_mark 41 = .ok (.bastore, 1) := by decide +kernel
theorem dX7_mark_42 : decode cX7_mark 42 = .ok (.iinc 1 1, 3) := by decide +kernel
theorem dX7_mark_45 : decode cX7_mark 45 = .ok (.goto (-28), 3) := by decide +kernel
theorem dX7_mark_48 : decode cX7_mark 48 = .ok (.aload_n 0, 1) := by decide +kernel
theorem dX7_mark_49 : decode cX7_mark 49 = .ok (.aload_n 0, 1) := by decide +kernel
theorem dX7_mark_50 : decode cX7_mark 50 = .ok (.getfield 91, 3) := by decide +kernel
theorem dX7_mark_53 : decode cX7_mark 53 = .ok (.putfield 152, 3) := by decide +kernel
theorem dX7_mark_56 : decode cX7_mark 56 = .ok (.aload_n 0, 1) := by decide +kernel
theorem dX7_mark_57 : decode cX7_mark 57 = .ok (.aload_n 0, 1) := by decide +kernel
theorem dX7_mark_58 : decode cX7_mark 58 = .ok (.getfield 27, 3) := by decide +kernel
theorem dX7_mark_61 : decode cX7_mark 61 = .ok (.iconst 0, 1) := by decide +kernel
theorem dX7_mark_62 : decode cX7_mark 62 = .ok (.iaload, 1) := by decide +kernel
theorem dX7_mark_63 : decode cX7_mark 63 = .ok (.putfield 155, 3) := by decide +kernel
theorem dX7_mark_66 : decode cX7_mark 66 = .ok (.aload_n 0, 1) := by decide +kernel
theorem dX7_mark_67 : decode cX7_mark 67 = .ok (.aload_n 0, 1) := by decide +kernel
theorem dX7_mark_68 : decode cX7_mark 68 = .ok (.getfield 30, 3) := by decide +kernel
theorem dX7_mark_71 : decode cX7_mark 71 = .ok (.iconst 0, 1) := by decide +kernel
theorem dX7_mark_72 : decode cX7_mark 72 = .ok (.iaload, 1) := by decide +kernel
theorem dX7_mark_73 : decode cX7_mark 73 = .ok (.putfield 158, 3) := by decide +kernel
theorem dX7_mark_76 : decode cX7_mark 76 = .ok (.aload_n 0, 1) := by decide +kernel
theorem dX7_mark_77 : decode cX7_mark 77 = .ok (.aload_n 0, 1) := by decide +kernel
theorem dX7_mark_78 : decode cX7_mark 78 = .ok (.getfield 33, 3) := by decide +kernel
theorem dX7_mark_81 : decode cX7_mark 81 = .ok (.iconst 0, 1) := by decide +kernel
theorem dX7_mark_82 : decode cX7_mark 82 = .ok (.iaload, 1) := by decide +kernel
theorem dX7_mark_83 : decode cX7_mark 83 = .ok (.putfield 161, 3) := by decide +kernel
theorem dX7_mark_86 : decode cX7_mark 86 = .ok (.aload_n 0, 1) := by decide +kernel
theorem dX7_mark_87 : decode cX7_mark 87 = .ok (.aload_n 0, 1) := by decide +kernel
theorem dX7_mark_88 : decode cX7_mark 88 = .ok (.getfield 36, 3) := by decide +kernel
theorem dX7_mark_91 : decode cX7_mark 91 = .ok (.iconst 0, 1) := by decide +kernel
theorem dX7_mark_92 : decode cX7_mark 92 = .ok (.iaload, 1) := by decide +kernel
theorem dX7_mark_93 : decode cX7_mark 93 = .ok (.putfield 164, 3) := by decide +kernel
theorem dX7_mark_96 : decode cX7_mark 96 = .ok (.aload_n 0, 1) := by decide +kernel
theorem dX7_mark_97 : decode cX7_mark 97 = .ok (.getfield 91, 3) := by decide +kernel
theorem dX7_mark_100 : decode cX7_mark 100 = .ok (.ireturn, 1) := by decide +kernel
set_option maxRecDepth 20000 in
theorem ggX7_colourAt_X7_isCell : GoodIn wsX7_colourAt wsX7_isCell := goodIn_r _ [5, 6, 7, 4, 8] (by decide +kernel) (by decide +kernel)
set_option maxRecDepth 20000 in
theorem gX7_colourAt_X7_isCell : GoodIn wsX7_colourAt (va_wsS RX7 113 yX7_isCell wsX7_isCell) := goodIn_app (goodIn_of _ (by decide +kernel)) ggX7_colourAt_X7_isCell
set_option maxRecDepth 20000 in
theorem ggX7_colourAt_X7_cell : GoodIn wsX7_colourAt wsX7_cell := goodIn_r _ [11] (by decide +kernel) (by decide +kernel)
set_option maxRecDepth 20000 in
theorem gX7_colourAt_X7_cell : GoodIn wsX7_colourAt (va_wsS RX7 117 yX7_cell wsX7_cell) := goodIn_app (goodIn_of _ (by decide +kernel)) ggX7_colourAt_X7_cell
theorem dX7_colourAt_0 : decode cX7_colourAt 0 = .ok (.iload_n 1, 1) := by decide +kernel
theorem dX7_colourAt_1 : decode cX7_colourAt 1 = .ok (.iload_n 2, 1) := by decide +kernel
theorem dX7_colourAt_2 : decode cX7_colourAt 2 = .ok (.invokestatic 113, 3) := by decide +kernel
theorem dX7_colourAt_5 : decode cX7_colourAt 5 = .ok (.ifCond .eq 16, 3) := by decide +kernel
theorem dX7_colourAt_8 : decode cX7_colourAt 8 = .ok (.aload_n 0, 1) := by decide +kernel
theorem dX7_colourAt_9 : decode cX7_colourAt 9 = .ok (.getfield 14, 3) := by decide +kernel
theorem dX7_colourAt_12 : decode cX7_colourAt 12 = .ok (.iload_n 1, 1) := by decide +kernel
theorem dX7_colourAt_13 : decode cX7_colourAt 13 = .ok (.iload_n 2, 1) := by decide +kernel
theorem dX7_colourAt_14 : decode cX7_colourAt 14 = .ok (.invokestatic 117, 3) := by decide +kernel
theorem dX7_colourAt_17 : decode cX7_colourAt 17 = .ok (.iaload, 1) := by decide +kernel
theorem dX7_colourAt_18 : decode cX7_colourAt 18 = .ok (.goto 4, 3) := by decide +kernel
theorem dX7_colourAt_21 : decode cX7_colourAt 21 = .ok (.iconst 0, 1) := by decide +kernel
theorem dX7_colourAt_22 : decode cX7_colourAt 22 = .ok (.ireturn, 1) := by decide +kernel
set_option maxRecDepth 20000 in
theorem ggX7_markedAt_X7_isCell : GoodIn wsX7_markedAt wsX7_isCell := goodIn_r _ [5, 6, 7, 4, 8] (by decide +kernel) (by decide +kernel)
set_option maxRecDepth 20000 in
theorem gX7_markedAt_X7_isCell : GoodIn wsX7_markedAt (va_wsS RX7 113 yX7_isCell wsX7_isCell) := goodIn_app (goodIn_of _ (by decide +kernel)) ggX7_markedAt_X7_isCell
set_option maxRecDepth 20000 in
theorem ggX7_markedAt_X7_cell : GoodIn wsX7_markedAt wsX7_cell := goodIn_r _ [11] (by decide +kernel) (by decide +kernel)
set_option maxRecDepth 20000 in
theorem gX7_markedAt_X7_cell : GoodIn wsX7_markedAt (va_wsS RX7 117 yX7_cell wsX7_cell) := goodIn_app (goodIn_of _ (by decide +kernel)) ggX7_markedAt_X7_cell
theorem dX7_markedAt_0 : decode cX7_markedAt 0 = .ok (.iload_n 1, 1) := by decide +kernel
theorem dX7_markedAt_1 : decode cX7_markedAt 1 = .ok (.iload_n 2, 1) := by decide +kernel
theorem dX7_markedAt_2 : decode cX7_markedAt 2 = .ok (.invokestatic 113, 3) := by decide +kernel
theorem dX7_markedAt_5 : decode cX7_markedAt 5 = .ok (.ifCond .eq 16, 3) := by decide +kernel
theorem dX7_markedAt_8 : decode cX7_markedAt 8 = .ok (.aload_n 0, 1) := by decide +kernel
theorem dX7_markedAt_9 : decode cX7_markedAt 9 = .ok (.getfield 58, 3) := by decide +kernel
theorem dX7_markedAt_12 : decode cX7_markedAt 12 = .ok (.iload_n 1, 1) := by decide +kernel
theorem dX7_markedAt_13 : decode cX7_markedAt 13 = .ok (.iload_n 2, 1) := by decide +kernel
theorem dX7_markedAt_14 : decode cX7_markedAt 14 = .ok (.invokestatic 117, 3) := by decide +kernel
theorem dX7_markedAt_17 : decode cX7_markedAt 17 = .ok (.iaload, 1) := by decide +kernel
theorem dX7_markedAt_18 : decode cX7_markedAt 18 = .ok (.goto 4, 3) := by decide +kernel
theorem dX7_markedAt_21 : decode cX7_markedAt 21 = .ok (.iconst 0, 1) := by decide +kernel
theorem dX7_markedAt_22 : decode cX7_markedAt 22 = .ok (.ireturn, 1) := by decide +kernel
set_option maxRecDepth 20000 in
theorem ggX7_comesBack_X7_isCell : GoodIn wsX7_comesBack wsX7_isCell := goodIn_r _ [4, 5, 6, 3, 7] (by decide +kernel) (by decide +kernel)
set_option maxRecDepth 20000 in
theorem gX7_comesBack_X7_isCell : GoodIn wsX7_comesBack (va_wsS RX7 113 yX7_isCell wsX7_isCell) := goodIn_app (goodIn_of _ (by decide +kernel)) ggX7_comesBack_X7_isCell
set_option maxRecDepth 20000 in
theorem ggX7_comesBack_X7_colourAt : GoodIn wsX7_comesBack wsX7_colourAt := goodIn_r _ [11, 12, 1, 2, 3, 4, 5, 6, 7, 13, 14, 15, 21, 22, 23, 24, 25, 26, 27, 28, 29, 30, 31, 32, 33, 34, 35, 36, 37, 38, 39, 40, 41, 42, 43, 44, 45, 46, 47, 48, 49, 50, 51, 52, 53] (by decide +kernel) (by decide +kernel)
set_option maxRecDepth 20000 in
theorem gX7_comesBack_X7_colourAt : GoodIn wsX7_comesBack (wsV RX7 167 RX7 yX7_colourAt wsX7_colourAt) := goodIn_app (goodIn_of _ (by decide +kernel)) ggX7_comesBack_X7_colourAt
set_option maxRecDepth 20000 in
theorem ggX7_comesBack_X7_markedAt : GoodIn wsX7_comesBack wsX7_markedAt := goodIn_r _ [19, 20, 1, 2, 3, 4, 5, 6, 7, 13, 14, 15, 21, 22, 23, 24, 25, 26, 27, 28, 29, 30, 31, 32, 33, 34, 35, 36, 37, 38, 39, 40, 41, 42, 43, 44, 45, 46, 47, 48, 49, 50, 51, 52, 53] (by decide +kernel) (by decide +kernel)
set_option maxRecDepth 20000 in
theorem gX7_comesBack_X7_markedAt : GoodIn wsX7_comesBack (wsV RX7 170 RX7 yX7_markedAt wsX7_markedAt) := goodIn_app (goodIn_of _ (by decide +kernel)) ggX7_comesBack_X7_markedAt
theorem dX7_comesBack_0 : decode cX7_comesBack 0 = .ok (.iload_n 1, 1) := by decide +kernel
theorem dX7_comesBack_1 : decode cX7_comesBack 1 = .ok (.istore 5, 2) := by decide +kernel
theorem dX7_comesBack_3 : decode cX7_comesBack 3 = .ok (.iload_n 2, 1) := by decide +kernel
theorem dX7_comesBack_4 : decode cX7_comesBack 4 = .ok (.istore 6, 2) := by decide +kernel
theorem dX7_comesBack_6 : decode cX7_comesBack 6 = .ok (.iconst 1, 1) := by decide +kernel
theorem dX7_comesBack_7 : decode cX7_comesBack 7 = .ok (.istore 7, 2) := by decide +kernel
theorem dX7_comesBack_9 : decode cX7_comesBack 9 = .ok (.iload 7, 2) := by decide +kernel
theorem dX7_comesBack_11 : decode cX7_comesBack 11 = .ok (.ifCond .eq 75, 3) := by decide +kernel
theorem dX7_comesBack_14 : decode cX7_comesBack 14 = .ok (.iload 5, 2) := by decide +kernel
theorem dX7_comesBack_16 : decode cX7_comesBack 16 = .ok (.iload 6, 2) := by decide +kernel
theorem dX7_comesBack_18 : decode cX7_comesBack 18 = .ok (.invokestatic 113, 3) := by decide +kernel
theorem dX7_comesBack_21 : decode cX7_comesBack 21 = .ok (.ifCond .ne 18, 3) := by decide +kernel
theorem dX7_comesBack_24 : decode cX7_comesBack 24 = .ok (.iload 5, 2) := by decide +kernel
theorem dX7_comesBack_26 : decode cX7_comesBack 26 = .ok (.iload_n 3, 1) := by decide +kernel
theorem dX7_comesBack_27 : decode cX7_comesBack 27 = .ok (.iadd, 1) := by decide +kernel
theorem dX7_comesBack_28 : decode cX7_comesBack 28 = .ok (.iload 6, 2) := by decide +kernel
theorem dX7_comesBack_30 : decode cX7_comesBack 30 = .ok (.iload 4, 2) := by decide +kernel
theorem dX7_comesBack_32 : decode cX7_comesBack 32 = .ok (.iadd, 1) := by decide +kernel
theorem dX7_comesBack_33 : decode cX7_comesBack 33 = .ok (.invokestatic 113, 3) := by decide +kernel
theorem dX7_comesBack_36 : decode cX7_comesBack 36 = .ok (.ifCond .eq 50, 3) := by decide +kernel
theorem dX7_comesBack_39 : decode cX7_comesBack 39 = .ok (.aload_n 0, 1) := by decide +kernel
theorem dX7_comesBack_40 : decode cX7_comesBack 40 = .ok (.iload 5, 2) := by decide +kernel
theorem dX7_comesBack_42 : decode cX7_comesBack 42 = .ok (.iload_n 3, 1) := by decide +kernel
theorem dX7_comesBack_43 : decode cX7_comesBack 43 = .ok (.iadd, 1) := by decide +kernel
theorem dX7_comesBack_44 : decode cX7_comesBack 44 = .ok (.iload 6, 2) := by decide +kernel
theorem dX7_comesBack_46 : decode cX7_comesBack 46 = .ok (.iload 4, 2) := by decide +kernel
theorem dX7_comesBack_48 : decode cX7_comesBack 48 = .ok (.iadd, 1) := by decide +kernel
theorem dX7_comesBack_49 : decode cX7_comesBack 49 = .ok (.invokevirtual 167, 3) := by decide +kernel
theorem dX7_comesBack_52 : decode cX7_comesBack 52 = .ok (.aload_n 0, 1) := by decide +kernel
theorem dX7_comesBack_53 : decode cX7_comesBack 53 = .ok (.iload 5, 2) := by decide +kernel
theorem dX7_comesBack_55 : decode cX7_comesBack 55 = .ok (.iload 6, 2) := by decide +kernel
theorem dX7_comesBack_57 : decode cX7_comesBack 57 = .ok (.invokevirtual 170, 3) := by decide +kernel
theorem dX7_comesBack_60 : decode cX7_comesBack 60 = .ok (.if_icmp .ne 7, 3) := by decide +kernel
theorem dX7_comesBack_63 : decode cX7_comesBack 63 = .ok (.iconst 1, 1) := by decide +kernel
theorem dX7_comesBack_64 : decode cX7_comesBack 64 = .ok (.goto 4, 3) := by decide +kernel
theorem dX7_comesBack_67 : decode cX7_comesBack 67 = .ok (.iconst 0, 1) := by decide +kernel
theorem dX7_comesBack_68 : decode cX7_comesBack 68 = .ok (.istore 7, 2) := by decide +kernel
theorem dX7_comesBack_70 : decode cX7_comesBack 70 = .ok (.iload 5, 2) := by decide +kernel
theorem dX7_comesBack_72 : decode cX7_comesBack 72 = .ok (.iload_n 3, 1) := by decide +kernel
theorem dX7_comesBack_73 : decode cX7_comesBack 73 = .ok (.iadd, 1) := by decide +kernel
theorem dX7_comesBack_74 : decode cX7_comesBack 74 = .ok (.istore 5, 2) := by decide +kernel
theorem dX7_comesBack_76 : decode cX7_comesBack 76 = .ok (.iload 6, 2) := by decide +kernel
theorem dX7_comesBack_78 : decode cX7_comesBack 78 = .ok (.iload 4, 2) := by decide +kernel
theorem dX7_comesBack_80 : decode cX7_comesBack 80 = .ok (.iadd, 1) := by decide +kernel
theorem dX7_comesBack_81 : decode cX7_comesBack 81 = .ok (.istore 6, 2) := by decide +kernel
theorem dX7_comesBack_83 : decode cX7_comesBack 83 = .ok (.goto (-74), 3) := by decide +kernel
theorem dX7_comesBack_86 : decode cX7_comesBack 86 = .ok (.iload 7, 2) := by decide +kernel
theorem dX7_comesBack_88 : decode cX7_comesBack 88 = .ok (.ireturn, 1) := by decide +kernel
set_option maxRecDepth 20000 in
theorem ggX7_isRoad_X7_comesBack : GoodIn wsX7_isRoad wsX7_comesBack := goodIn_r _ [20, 21, 22, 19, 23, 24, 25, 26, 27, 28, 29, 30, 31, 32, 33, 34, 35, 36, 37, 38, 39, 40, 41, 42, 43, 44, 45, 46, 47, 48, 49, 50, 51, 52, 53, 54, 55, 56, 57, 58, 59, 60, 61, 62, 63, 64, 65, 66, 67, 68, 69, 70, 71, 72] (by decide +kernel) (by decide +kernel)
set_option maxRecDepth 20000 in
theorem gX7_isRoad_X7_comesBack : GoodIn wsX7_isRoad (wsV RX7 173 RX7 yX7_comesBack wsX7_comesBack) := goodIn_app (goodIn_of _ (by decide +kernel)) ggX7_isRoad_X7_comesBack
theorem dX7_isRoad_0 : decode cX7_isRoad 0 = .ok (.aload_n 0, 1) := by decide +kernel
theorem dX7_isRoad_1 : decode cX7_isRoad 1 = .ok (.getfield 81, 3) := by decide +kernel
theorem dX7_isRoad_4 : decode cX7_isRoad 4 = .ok (.iconst 1, 1) := by decide +kernel
theorem dX7_isRoad_5 : decode cX7_isRoad 5 = .ok (.if_icmp .ne 54, 3) := by decide +kernel
theorem dX7_isRoad_8 : decode cX7_isRoad 8 = .ok (.aload_n 0, 1) := by decide +kernel
theorem dX7_isRoad_9 : decode cX7_isRoad 9 = .ok (.getfield 110, 3) := by decide +kernel
theorem dX7_isRoad_12 : decode cX7_isRoad 12 = .ok (.ifCond .ne 47, 3) := by decide +kernel
theorem dX7_isRoad_15 : decode cX7_isRoad 15 = .ok (.aload_n 0, 1) := by decide +kernel
theorem dX7_isRoad_16 : decode cX7_isRoad 16 = .ok (.getfield 136, 3) := by decide +kernel
theorem dX7_isRoad_19 : decode cX7_isRoad 19 = .ok (.ifCond .ne 40, 3) := by decide +kernel
theorem dX7_isRoad_22 : decode cX7_isRoad 22 = .ok (.aload_n 0, 1) := by decide +kernel
theorem dX7_isRoad_23 : decode cX7_isRoad 23 = .ok (.getfield 91, 3) := by decide +kernel
theorem dX7_isRoad_26 : decode cX7_isRoad 26 = .ok (.aload_n 0, 1) := by decide +kernel
theorem dX7_isRoad_27 : decode cX7_isRoad 27 = .ok (.getfield 152, 3) := by decide +kernel
theorem dX7_isRoad_30 : decode cX7_isRoad 30 = .ok (.if_icmp .le 29, 3) := by decide +kernel
theorem dX7_isRoad_33 : decode cX7_isRoad 33 = .ok (.aload_n 0, 1) := by decide +kernel
theorem dX7_isRoad_34 : decode cX7_isRoad 34 = .ok (.getfield 33, 3) := by decide +kernel
theorem dX7_isRoad_37 : decode cX7_isRoad 37 = .ok (.iconst 0, 1) := by decide +kernel
theorem dX7_isRoad_38 : decode cX7_isRoad 38 = .ok (.iaload, 1) := by decide +kernel
theorem dX7_isRoad_39 : decode cX7_isRoad 39 = .ok (.aload_n 0, 1) := by decide +kernel
theorem dX7_isRoad_40 : decode cX7_isRoad 40 = .ok (.getfield 161, 3) := by decide +kernel
theorem dX7_isRoad_43 : decode cX7_isRoad 43 = .ok (.if_icmp .ne 16, 3) := by decide +kernel
theorem dX7_isRoad_46 : decode cX7_isRoad 46 = .ok (.aload_n 0, 1) := by decide +kernel
theorem dX7_isRoad_47 : decode cX7_isRoad 47 = .ok (.getfield 36, 3) := by decide +kernel
theorem dX7_isRoad_50 : decode cX7_isRoad 50 = .ok (.iconst 0, 1) := by decide +kernel
theorem dX7_isRoad_51 : decode cX7_isRoad 51 = .ok (.iaload, 1) := by decide +kernel
theorem dX7_isRoad_52 : decode cX7_isRoad 52 = .ok (.aload_n 0, 1) := by decide +kernel
theorem dX7_isRoad_53 : decode cX7_isRoad 53 = .ok (.getfield 164, 3) := by decide +kernel
theorem dX7_isRoad_56 : decode cX7_isRoad 56 = .ok (.if_icmp .eq 5, 3) := by decide +kernel
theorem dX7_isRoad_59 : decode cX7_isRoad 59 = .ok (.iconst 0, 1) := by decide +kernel
theorem dX7_isRoad_60 : decode cX7_isRoad 60 = .ok (.ireturn, 1) := by decide +kernel
theorem dX7_isRoad_61 : decode cX7_isRoad 61 = .ok (.aload_n 0, 1) := by decide +kernel
theorem dX7_isRoad_62 : decode cX7_isRoad 62 = .ok (.getfield 27, 3) := by decide +kernel
theorem dX7_isRoad_65 : decode cX7_isRoad 65 = .ok (.iconst 0, 1) := by decide +kernel
theorem dX7_isRoad_66 : decode cX7_isRoad 66 = .ok (.iaload, 1) := by decide +kernel
theorem dX7_isRoad_67 : decode cX7_isRoad 67 = .ok (.aload_n 0, 1) := by decide +kernel
theorem dX7_isRoad_68 : decode cX7_isRoad 68 = .ok (.getfield 155, 3) := by decide +kernel
theorem dX7_isRoad_71 : decode cX7_isRoad 71 = .ok (.isub, 1) := by decide +kernel
theorem dX7_isRoad_72 : decode cX7_isRoad 72 = .ok (.istore_n 1, 1) := by decide +kernel
theorem dX7_isRoad_73 : decode cX7_isRoad 73 = .ok (.aload_n 0, 1) := by decide +kernel
theorem dX7_isRoad_74 : decode cX7_isRoad 74 = .ok (.getfield 30, 3) := by decide +kernel
theorem dX7_isRoad_77 : decode cX7_isRoad 77 = .ok (.iconst 0, 1) := by decide +kernel
theorem dX7_isRoad_78 : decode cX7_isRoad 78 = .ok (.iaload, 1) := by decide +kernel
theorem dX7_isRoad_79 : decode cX7_isRoad 79 = .ok (.aload_n 0, 1) := by decide +kernel
theorem dX7_isRoad_80 : decode cX7_isRoad 80 = .ok (.getfield 158, 3) := by decide +kernel
theorem dX7_isRoad_83 : decode cX7_isRoad 83 = .ok (.isub, 1) := by decide +kernel
theorem dX7_isRoad_84 : decode cX7_isRoad 84 = .ok (.istore_n 2, 1) := by decide +kernel
theorem dX7_isRoad_85 : decode cX7_isRoad 85 = .ok (.iload_n 1, 1) := by decide +kernel
theorem dX7_isRoad_86 : decode cX7_isRoad 86 = .ok (.ifCond .ne 7, 3) := by decide +kernel
theorem dX7_isRoad_89 : decode cX7_isRoad 89 = .ok (.iload_n 2, 1) := by decide +kernel
theorem dX7_isRoad_90 : decode cX7_isRoad 90 = .ok (.ifCond .eq 7, 3) := by decide +kernel
theorem dX7_isRoad_93 : decode cX7_isRoad 93 = .ok (.iconst 1, 1) := by decide +kernel
theorem dX7_isRoad_94 : decode cX7_isRoad 94 = .ok (.goto 4, 3) := by decide +kernel
theorem dX7_isRoad_97 : decode cX7_isRoad 97 = .ok (.iconst 0, 1) := by decide +kernel
theorem dX7_isRoad_98 : decode cX7_isRoad 98 = .ok (.istore_n 3, 1) := by decide +kernel
theorem dX7_isRoad_99 : decode cX7_isRoad 99 = .ok (.iconst 0, 1) := by decide +kernel
theorem dX7_isRoad_100 : decode cX7_isRoad 100 = .ok (.istore 4, 2) := by decide +kernel
theorem dX7_isRoad_102 : decode cX7_isRoad 102 = .ok (.iload 4, 2) := by decide +kernel
theorem dX7_isRoad_104 : decode cX7_isRoad 104 = .ok (.ldc 13, 2) := by decide +kernel
theorem dX7_isRoad_106 : decode cX7_isRoad 106 = .ok (.if_icmp .ge 56, 3) := by decide +kernel
theorem dX7_isRoad_109 : decode cX7_isRoad 109 = .ok (.iload_n 3, 1) := by decide +kernel
theorem dX7_isRoad_110 : decode cX7_isRoad 110 = .ok (.ifCond .eq 52, 3) := by decide +kernel
theorem dX7_isRoad_113 : decode cX7_isRoad 113 = .ok (.aload_n 0, 1) := by decide +kernel
theorem dX7_isRoad_114 : decode cX7_isRoad 114 = .ok (.getfield 54, 3) := by decide +kernel
theorem dX7_isRoad_117 : decode cX7_isRoad 117 = .ok (.iload 4, 2) := by decide +kernel
theorem dX7_isRoad_119 : decode cX7_isRoad 119 = .ok (.baload, 1) := by decide +kernel
theorem dX7_isRoad_120 : decode cX7_isRoad 120 = .ok (.ifCond .eq 30, 3) := by decide +kernel
theorem dX7_isRoad_123 : decode cX7_isRoad 123 = .ok (.aload_n 0, 1) := by decide +kernel
theorem dX7_isRoad_124 : decode cX7_isRoad 124 = .ok (.iload 4, 2) := by decide +kernel
theorem dX7_isRoad_126 : decode cX7_isRoad 126 = .ok (.sipush 240, 3) := by decide +kernel
theorem dX7_isRoad_129 : decode cX7_isRoad 129 = .ok (.irem, 1) := by decide +kernel
theorem dX7_isRoad_130 : decode cX7_isRoad 130 = .ok (.bipush 120, 2) := by decide +kernel
theorem dX7_isRoad_132 : decode cX7_isRoad 132 = .ok (.isub, 1) := by decide +kernel
theorem dX7_isRoad_133 : decode cX7_isRoad 133 = .ok (.iload 4, 2) := by decide +kernel
theorem dX7_isRoad_135 : decode cX7_isRoad 135 = .ok (.sipush 240, 3) := by decide +kernel
theorem dX7_isRoad_138 : decode cX7_isRoad 138 = .ok (.idiv, 1) := by decide +kernel
theorem dX7_isRoad_139 : decode cX7_isRoad 139 = .ok (.bipush 120, 2) := by decide +kernel
theorem dX7_isRoad_141 : decode cX7_isRoad 141 = .ok (.isub, 1) := by decide +kernel
theorem dX7_isRoad_142 : decode cX7_isRoad 142 = .ok (.iload_n 1, 1) := by decide +kernel
theorem dX7_isRoad_143 : decode cX7_isRoad 143 = .ok (.iload_n 2, 1) := by decide +kernel
theorem dX7_isRoad_144 : decode cX7_isRoad 144 = .ok (.invokevirtual 173, 3) := by decide +kernel
theorem dX7_isRoad_147 : decode cX7_isRoad 147 = .ok (.ifCond .eq 7, 3) := by decide +kernel
theorem dX7_isRoad_150 : decode cX7_isRoad 150 = .ok (.iconst 1, 1) := by decide +kernel
theorem dX7_isRoad_151 : decode cX7_isRoad 151 = .ok (.goto 4, 3) := by decide +kernel
theorem dX7_isRoad_154 : decode cX7_isRoad 154 = .ok (.iconst 0, 1) := by decide +kernel
theorem dX7_isRoad_155 : decode cX7_isRoad 155 = .ok (.istore_n 3, 1) := by decide +kernel
theorem dX7_isRoad_156 : decode cX7_isRoad 156 = .ok (.iinc 4 1, 3) := by decide +kernel
theorem dX7_isRoad_159 : decode cX7_isRoad 159 = .ok (.goto (-57), 3) := by decide +kernel
theorem dX7_isRoad_162 : decode cX7_isRoad 162 = .ok (.iload_n 3, 1) := by decide +kernel
theorem dX7_isRoad_163 : decode cX7_isRoad 163 = .ok (.ireturn, 1) := by decide +kernel
set_option maxRecDepth 20000 in
theorem ggX7_road_X7_in : GoodIn wsX7_road wsX7_in := goodIn_r _ [13] (by decide +kernel) (by decide +kernel)
set_option maxRecDepth 20000 in
theorem gX7_road_X7_in : GoodIn wsX7_road (va_wsS RX7 1 yX7_in wsX7_in) := goodIn_app (goodIn_of _ (by decide +kernel)) ggX7_road_X7_in
set_option maxRecDepth 20000 in
theorem ggX7_road_X7_isRoad : GoodIn wsX7_road wsX7_isRoad := goodIn_r _ [17, 18, 19, 20, 4, 5, 21, 22, 23, 24, 6, 7, 8, 9, 2, 3, 25, 26, 27, 12, 28, 29, 30, 31, 10, 11, 13, 32, 33, 34, 35, 36, 37, 38, 39, 40, 41, 42, 43, 44, 45, 46, 47, 48, 49, 50, 51, 52, 53, 54, 55, 56, 57, 58, 59, 60, 61, 62, 63, 64, 65, 66, 67, 68, 69, 70, 71, 72, 73, 74, 75, 76, 77] (by decide +kernel) (by decide +kernel)
set_option maxRecDepth 20000 in
theorem gX7_road_X7_isRoad : GoodIn wsX7_road (wsV RX7 177 RX7 yX7_isRoad wsX7_isRoad) := goodIn_app (goodIn_of _ (by decide +kernel)) ggX7_road_X7_isRoad
theorem dX7_road_0 : decode cX7_road 0 = .ok (.iload_n 1, 1) := by decide +kernel
theorem dX7_road_1 : decode cX7_road 1 = .ok (.iconst 0, 1) := by decide +kernel
theorem dX7_road_2 : decode cX7_road 2 = .ok (.iconst 3, 1) := by decide +kernel
theorem dX7_road_3 : decode cX7_road 3 = .ok (.invokestatic 1, 3) := by decide +kernel
theorem dX7_road_6 : decode cX7_road 6 = .ok (.ifCond .ne 7, 3) := by decide +kernel
theorem dX7_road_9 : decode cX7_road 9 = .ok (.sipush (-1001), 3) := by decide +kernel
theorem dX7_road_12 : decode cX7_road 12 = .ok (.ireturn, 1) := by decide +kernel
theorem dX7_road_13 : decode cX7_road 13 = .ok (.aload_n 0, 1) := by decide +kernel
theorem dX7_road_14 : decode cX7_road 14 = .ok (.getfield 97, 3) := by decide +kernel
theorem dX7_road_17 : decode cX7_road 17 = .ok (.ifCond .ne 7, 3) := by decide +kernel
theorem dX7_road_20 : decode cX7_road 20 = .ok (.sipush (-1002), 3) := by decide +kernel
theorem dX7_road_23 : decode cX7_road 23 = .ok (.ireturn, 1) := by decide +kernel
theorem dX7_road_24 : decode cX7_road 24 = .ok (.iload_n 1, 1) := by decide +kernel
theorem dX7_road_25 : decode cX7_road 25 = .ok (.iconst 3, 1) := by decide +kernel
theorem dX7_road_26 : decode cX7_road 26 = .ok (.if_icmp .ne 38, 3) := by decide +kernel
theorem dX7_road_29 : decode cX7_road 29 = .ok (.iconst 0, 1) := by decide +kernel
theorem dX7_road_30 : decode cX7_road 30 = .ok (.istore_n 2, 1) := by decide +kernel
theorem dX7_road_31 : decode cX7_road 31 = .ok (.iconst 0, 1) := by decide +kernel
theorem dX7_road_32 : decode cX7_road 32 = .ok (.istore_n 3, 1) := by decide +kernel
theorem dX7_road_33 : decode cX7_road 33 = .ok (.iload_n 3, 1) := by decide +kernel
theorem dX7_road_34 : decode cX7_road 34 = .ok (.ldc 13, 2) := by decide +kernel
theorem dX7_road_36 : decode cX7_road 36 = .ok (.if_icmp .ge 26, 3) := by decide +kernel
theorem dX7_road_39 : decode cX7_road 39 = .ok (.iload_n 2, 1) := by decide +kernel
theorem dX7_road_40 : decode cX7_road 40 = .ok (.aload_n 0, 1) := by decide +kernel
theorem dX7_road_41 : decode cX7_road 41 = .ok (.getfield 54, 3) := by decide +kernel
theorem dX7_road_44 : decode cX7_road 44 = .ok (.iload_n 3, 1) := by decide +kernel
theorem dX7_road_45 : decode cX7_road 45 = .ok (.baload, 1) := by decide +kernel
theorem dX7_road_46 : decode cX7_road 46 = .ok (.ifCond .eq 7, 3) := by decide +kernel
theorem dX7_road_49 : decode cX7_road 49 = .ok (.iconst 1, 1) := by decide +kernel
theorem dX7_road_50 : decode cX7_road 50 = .ok (.goto 4, 3) := by decide +kernel
theorem dX7_road_53 : decode cX7_road 53 = .ok (.iconst 0, 1) := by decide +kernel
theorem dX7_road_54 : decode cX7_road 54 = .ok (.iadd, 1) := by decide +kernel
theorem dX7_road_55 : decode cX7_road 55 = .ok (.istore_n 2, 1) := by decide +kernel
theorem dX7_road_56 : decode cX7_road 56 = .ok (.iinc 3 1, 3) := by decide +kernel
theorem dX7_road_59 : decode cX7_road 59 = .ok (.goto (-26), 3) := by decide +kernel
theorem dX7_road_62 : decode cX7_road 62 = .ok (.iload_n 2, 1) := by decide +kernel
theorem dX7_road_63 : decode cX7_road 63 = .ok (.ireturn, 1) := by decide +kernel
theorem dX7_road_64 : decode cX7_road 64 = .ok (.aload_n 0, 1) := by decide +kernel
theorem dX7_road_65 : decode cX7_road 65 = .ok (.invokevirtual 177, 3) := by decide +kernel
theorem dX7_road_68 : decode cX7_road 68 = .ok (.ifCond .ne 15, 3) := by decide +kernel
theorem dX7_road_71 : decode cX7_road 71 = .ok (.iload_n 1, 1) := by decide +kernel
theorem dX7_road_72 : decode cX7_road 72 = .ok (.ifCond .ne 7, 3) := by decide +kernel
theorem dX7_road_75 : decode cX7_road 75 = .ok (.iconst 0, 1) := by decide +kernel
theorem dX7_road_76 : decode cX7_road 76 = .ok (.goto 6, 3) := by decide +kernel
theorem dX7_road_79 : decode cX7_road 79 = .ok (.sipush (-1002), 3) := by decide +kernel
theorem dX7_road_82 : decode cX7_road 82 = .ok (.ireturn, 1) := by decide +kernel
theorem dX7_road_83 : decode cX7_road 83 = .ok (.iload_n 1, 1) := by decide +kernel
theorem dX7_road_84 : decode cX7_road 84 = .ok (.ifCond .ne 15, 3) := by decide +kernel
theorem dX7_road_87 : decode cX7_road 87 = .ok (.aload_n 0, 1) := by decide +kernel
theorem dX7_road_88 : decode cX7_road 88 = .ok (.getfield 91, 3) := by decide +kernel
theorem dX7_road_91 : decode cX7_road 91 = .ok (.aload_n 0, 1) := by decide +kernel
theorem dX7_road_92 : decode cX7_road 92 = .ok (.getfield 152, 3) := by decide +kernel
theorem dX7_road_95 : decode cX7_road 95 = .ok (.isub, 1) := by decide +kernel
theorem dX7_road_96 : decode cX7_road 96 = .ok (.goto 33, 3) := by decide +kernel
theorem dX7_road_99 : decode cX7_road 99 = .ok (.iload_n 1, 1) := by decide +kernel
theorem dX7_road_100 : decode cX7_road 100 = .ok (.iconst 1, 1) := by decide +kernel
theorem dX7_road_101 : decode cX7_road 101 = .ok (.if_icmp .ne 17, 3) := by decide +kernel
theorem dX7_road_104 : decode cX7_road 104 = .ok (.aload_n 0, 1) := by decide +kernel
theorem dX7_road_105 : decode cX7_road 105 = .ok (.getfield 27, 3) := by decide +kernel
theorem dX7_road_108 : decode cX7_road 108 = .ok (.iconst 0, 1) := by decide +kernel
theorem dX7_road_109 : decode cX7_road 109 = .ok (.iaload, 1) := by decide +kernel
theorem dX7_road_110 : decode cX7_road 110 = .ok (.aload_n 0, 1) := by decide +kernel
theorem dX7_road_111 : decode cX7_road 111 = .ok (.getfield 155, 3) := by decide +kernel
theorem dX7_road_114 : decode cX7_road 114 = .ok (.isub, 1) := by decide +kernel
theorem dX7_road_115 : decode cX7_road 115 = .ok (.goto 14, 3) := by decide +kernel
theorem dX7_road_118 : decode cX7_road 118 = .ok (.aload_n 0, 1) := by decide +kernel
theorem dX7_road_119 : decode cX7_road 119 = .ok (.getfield 30, 3) := by decide +kernel
theorem dX7_road_122 : decode cX7_road 122 = .ok (.iconst 0, 1) := by decide +kernel
theorem dX7_road_123 : decode cX7_road 123 = .ok (.iaload, 1) := by decide +kernel
theorem dX7_road_124 : decode cX7_road 124 = .ok (.aload_n 0, 1) := by decide +kernel
theorem dX7_road_125 : decode cX7_road 125 = .ok (.getfield 158, 3) := by decide +kernel
theorem dX7_road_128 : decode cX7_road 128 = .ok (.isub, 1) := by decide +kernel
theorem dX7_road_129 : decode cX7_road 129 = .ok (.ireturn, 1) := by decide +kernel
theorem dX7_differ_0 : decode cX7_differ 0 = .ok (.aload_n 0, 1) := by decide +kernel
theorem dX7_differ_1 : decode cX7_differ 1 = .ok (.getfield 97, 3) := by decide +kernel
theorem dX7_differ_4 : decode cX7_differ 4 = .ok (.ifCond .ne 6, 3) := by decide +kernel
theorem dX7_differ_7 : decode cX7_differ 7 = .ok (.bipush (-2), 2) := by decide +kernel
theorem dX7_differ_9 : decode cX7_differ 9 = .ok (.ireturn, 1) := by decide +kernel
theorem dX7_differ_10 : decode cX7_differ 10 = .ok (.iconst 0, 1) := by decide +kernel
theorem dX7_differ_11 : decode cX7_differ 11 = .ok (.istore_n 1, 1) := by decide +kernel
theorem dX7_differ_12 : decode cX7_differ 12 = .ok (.iconst 0, 1) := by decide +kernel
theorem dX7_differ_13 : decode cX7_differ 13 = .ok (.istore_n 2, 1) := by decide +kernel
theorem dX7_differ_14 : decode cX7_differ 14 = .ok (.iload_n 2, 1) := by decide +kernel
theorem dX7_differ_15 : decode cX7_differ 15 = .ok (.ldc 13, 2) := by decide +kernel
theorem dX7_differ_17 : decode cX7_differ 17 = .ok (.if_icmp .ge 32, 3) := by decide +kernel
theorem dX7_differ_20 : decode cX7_differ 20 = .ok (.iload_n 1, 1) := by decide +kernel
theorem dX7_differ_21 : decode cX7_differ 21 = .ok (.aload_n 0, 1) := by decide +kernel
theorem dX7_differ_22 : decode cX7_differ 22 = .ok (.getfield 14, 3) := by decide +kernel
theorem dX7_differ_25 : decode cX7_differ 25 = .ok (.iload_n 2, 1) := by decide +kernel
theorem dX7_differ_26 : decode cX7_differ 26 = .ok (.iaload, 1) := by decide +kernel
theorem dX7_differ_27 : decode cX7_differ 27 = .ok (.aload_n 0, 1) := by decide +kernel
theorem dX7_differ_28 : decode cX7_differ 28 = .ok (.getfield 58, 3) := by decide +kernel
theorem dX7_differ_31 : decode cX7_differ 31 = .ok (.iload_n 2, 1) := by decide +kernel
theorem dX7_differ_32 : decode cX7_differ 32 = .ok (.iaload, 1) := by decide +kernel
theorem dX7_differ_33 : decode cX7_differ 33 = .ok (.if_icmp .eq 7, 3) := by decide +kernel
theorem dX7_differ_36 : decode cX7_differ 36 = .ok (.iconst 1, 1) := by decide +kernel
theorem dX7_differ_37 : decode cX7_differ 37 = .ok (.goto 4, 3) := by decide +kernel
theorem dX7_differ_40 : decode cX7_differ 40 = .ok (.iconst 0, 1) := by decide +kernel
theorem dX7_differ_41 : decode cX7_differ 41 = .ok (.iadd, 1) := by decide +kernel
theorem dX7_differ_42 : decode cX7_differ 42 = .ok (.istore_n 1, 1) := by decide +kernel
theorem dX7_differ_43 : decode cX7_differ 43 = .ok (.iinc 2 1, 3) := by decide +kernel
theorem dX7_differ_46 : decode cX7_differ 46 = .ok (.goto (-32), 3) := by decide +kernel
theorem dX7_differ_49 : decode cX7_differ 49 = .ok (.iload_n 1, 1) := by decide +kernel
theorem dX7_differ_50 : decode cX7_differ 50 = .ok (.ireturn, 1) := by decide +kernel
set_option maxRecDepth 20000 in
theorem ggX7_like_X7_in : GoodIn wsX7_like wsX7_in := goodIn_r _ [7] (by decide +kernel) (by decide +kernel)
set_option maxRecDepth 20000 in
theorem gX7_like_X7_in : GoodIn wsX7_like (va_wsS RX7 1 yX7_in wsX7_in) := goodIn_app (goodIn_of _ (by decide +kernel)) ggX7_like_X7_in
set_option maxRecDepth 20000 in
theorem ggX7_like_X7_colourAt : GoodIn wsX7_like wsX7_colourAt := goodIn_r _ [11, 3, 12, 13, 6, 14, 4, 5, 7, 15, 16, 17, 18, 19, 20, 21, 22, 23, 24, 25, 26, 27, 28, 29, 30, 31, 32, 33, 34, 35, 36, 37, 38, 39, 40, 41, 42, 43, 44, 45, 46, 47, 48, 49, 50] (by decide +kernel) (by decide +kernel)
set_option maxRecDepth 20000 in
theorem gX7_like_X7_colourAt : GoodIn wsX7_like (wsV RX7 167 RX7 yX7_colourAt wsX7_colourAt) := goodIn_app (goodIn_of _ (by decide +kernel)) ggX7_like_X7_colourAt
theorem dX7_like_0 : decode cX7_like 0 = .ok (.iload_n 1, 1) := by decide +kernel
theorem dX7_like_1 : decode cX7_like 1 = .ok (.iconst 0, 1) := by decide +kernel
theorem dX7_like_2 : decode cX7_like 2 = .ok (.iconst 4, 1) := by decide +kernel
theorem dX7_like_3 : decode cX7_like 3 = .ok (.invokestatic 1, 3) := by decide +kernel
theorem dX7_like_6 : decode cX7_like 6 = .ok (.ifCond .eq 29, 3) := by decide +kernel
theorem dX7_like_9 : decode cX7_like 9 = .ok (.iload_n 2, 1) := by decide +kernel
theorem dX7_like_10 : decode cX7_like 10 = .ok (.sipush (-300), 3) := by decide +kernel
theorem dX7_like_13 : decode cX7_like 13 = .ok (.sipush 300, 3) := by decide +kernel
theorem dX7_like_16 : decode cX7_like 16 = .ok (.invokestatic 1, 3) := by decide +kernel
theorem dX7_like_19 : decode cX7_like 19 = .ok (.ifCond .eq 16, 3) := by decide +kernel
theorem dX7_like_22 : decode cX7_like 22 = .ok (.iload_n 3, 1) := by decide +kernel
theorem dX7_like_23 : decode cX7_like 23 = .ok (.sipush (-300), 3) := by decide +kernel
theorem dX7_like_26 : decode cX7_like 26 = .ok (.sipush 300, 3) := by decide +kernel
theorem dX7_like_29 : decode cX7_like 29 = .ok (.invokestatic 1, 3) := by decide +kernel
theorem dX7_like_32 : decode cX7_like 32 = .ok (.ifCond .ne 5, 3) := by decide +kernel
theorem dX7_like_35 : decode cX7_like 35 = .ok (.iconst (-1), 1) := by decide +kernel
theorem dX7_like_36 : decode cX7_like 36 = .ok (.ireturn, 1) := by decide +kernel
theorem dX7_like_37 : decode cX7_like 37 = .ok (.aload_n 0, 1) := by decide +kernel
theorem dX7_like_38 : decode cX7_like 38 = .ok (.getfield 77, 3) := by decide +kernel
theorem dX7_like_41 : decode cX7_like 41 = .ok (.iconst 1, 1) := by decide +kernel
theorem dX7_like_42 : decode cX7_like 42 = .ok (.if_icmp .ne 10, 3) := by decide +kernel
theorem dX7_like_45 : decode cX7_like 45 = .ok (.iload_n 1, 1) := by decide +kernel
theorem dX7_like_46 : decode cX7_like 46 = .ok (.ifCond .eq 6, 3) := by decide +kernel
theorem dX7_like_49 : decode cX7_like 49 = .ok (.bipush (-2), 2) := by decide +kernel
theorem dX7_like_51 : decode cX7_like 51 = .ok (.ireturn, 1) := by decide +kernel
theorem dX7_like_52 : decode cX7_like 52 = .ok (.iconst 0, 1) := by decide +kernel
theorem dX7_like_53 : decode cX7_like 53 = .ok (.istore 4, 2) := by decide +kernel
theorem dX7_like_55 : decode cX7_like 55 = .ok (.iload 4, 2) := by decide +kernel
theorem dX7_like_57 : decode cX7_like 57 = .ok (.ldc 13, 2) := by decide +kernel
theorem dX7_like_59 : decode cX7_like 59 = .ok (.if_icmp .ge 139, 3) := by decide +kernel
theorem dX7_like_62 : decode cX7_like 62 = .ok (.iload 4, 2) := by decide +kernel
theorem dX7_like_64 : decode cX7_like 64 = .ok (.sipush 240, 3) := by decide +kernel
theorem dX7_like_67 : decode cX7_like 67 = .ok (.irem, 1) := by decide +kernel
theorem dX7_like_68 : decode cX7_like 68 = .ok (.bipush 120, 2) := by decide +kernel
theorem dX7_like_70 : decode cX7_like 70 = .ok (.isub, 1) := by decide +kernel
theorem dX7_like_71 : decode cX7_like 71 = .ok (.istore 5, 2) := by decide +kernel
theorem dX7_like_73 : decode cX7_like 73 = .ok (.iload 4, 2) := by decide +kernel
theorem dX7_like_75 : decode cX7_like 75 = .ok (.sipush 240, 3) := by decide +kernel
theorem dX7_like_78 : decode cX7_like 78 = .ok (.idiv, 1) := by decide +kernel
theorem dX7_like_79 : decode cX7_like 79 = .ok (.bipush 120, 2) := by decide +kernel
theorem dX7_like_81 : decode cX7_like 81 = .ok (.isub, 1) := by decide +kernel
theorem dX7_like_82 : decode cX7_like 82 = .ok (.istore 6, 2) := by decide +kernel
theorem dX7_like_84 : decode cX7_like 84 = .ok (.iload_n 1, 1) := by decide +kernel
theorem dX7_like_85 : decode cX7_like 85 = .ok (.ifCond .eq 8, 3) := by decide +kernel
theorem dX7_like_88 : decode cX7_like 88 = .ok (.iload_n 1, 1) := by decide +kernel
theorem dX7_like_89 : decode cX7_like 89 = .ok (.iconst 1, 1) := by decide +kernel
theorem dX7_like_90 : decode cX7_like 90 = .ok (.if_icmp .ne 10, 3) := by decide +kernel
theorem dX7_like_93 : decode cX7_like 93 = .ok (.iload_n 2, 1) := by decide +kernel
theorem dX7_like_94 : decode cX7_like 94 = .ok (.iload 5, 2) := by decide +kernel
theorem dX7_like_96 : decode cX7_like 96 = .ok (.isub, 1) := by decide +kernel
theorem dX7_like_97 : decode cX7_like 97 = .ok (.goto 29, 3) := by decide +kernel
theorem dX7_like_100 : decode cX7_like 100 = .ok (.iload_n 1, 1) := by decide +kernel
theorem dX7_like_101 : decode cX7_like 101 = .ok (.iconst 2, 1) := by decide +kernel
theorem dX7_like_102 : decode cX7_like 102 = .ok (.if_icmp .ne 8, 3) := by decide +kernel
theorem dX7_like_105 : decode cX7_like 105 = .ok (.iload 5, 2) := by decide +kernel
theorem dX7_like_107 : decode cX7_like 107 = .ok (.goto 19, 3) := by decide +kernel
theorem dX7_like_110 : decode cX7_like 110 = .ok (.iload_n 1, 1) := by decide +kernel
theorem dX7_like_111 : decode cX7_like 111 = .ok (.iconst 3, 1) := by decide +kernel
theorem dX7_like_112 : decode cX7_like 112 = .ok (.if_icmp .ne 10, 3) := by decide +kernel
theorem dX7_like_115 : decode cX7_like 115 = .ok (.iload 6, 2) := by decide +kernel
theorem dX7_like_117 : decode cX7_like 117 = .ok (.iload_n 2, 1) := by decide +kernel
theorem dX7_like_118 : decode cX7_like 118 = .ok (.iadd, 1) := by decide +kernel
theorem dX7_like_119 : decode cX7_like 119 = .ok (.goto 7, 3) := by decide +kernel
theorem dX7_like_122 : decode cX7_like 122 = .ok (.iload_n 2, 1) := by decide +kernel
theorem dX7_like_123 : decode cX7_like 123 = .ok (.iload 6, 2) := by decide +kernel
theorem dX7_like_125 : decode cX7_like 125 = .ok (.isub, 1) := by decide +kernel
theorem dX7_like_126 : decode cX7_like 126 = .ok (.istore 7, 2) := by decide +kernel
theorem dX7_like_128 : decode cX7_like 128 = .ok (.iload_n 1, 1) := by decide +kernel
theorem dX7_like_129 : decode cX7_like 129 = .ok (.ifCond .eq 8, 3) := by decide +kernel
theorem dX7_like_132 : decode cX7_like 132 = .ok (.iload_n 1, 1) := by decide +kernel
theorem dX7_like_133 : decode cX7_like 133 = .ok (.iconst 2, 1) := by decide +kernel
theorem dX7_like_134 : decode cX7_like 134 = .ok (.if_icmp .ne 10, 3) := by decide +kernel
theorem dX7_like_137 : decode cX7_like 137 = .ok (.iload_n 3, 1) := by decide +kernel
theorem dX7_like_138 : decode cX7_like 138 = .ok (.iload 6, 2) := by decide +kernel
theorem dX7_like_140 : decode cX7_like 140 = .ok (.isub, 1) := by decide +kernel
theorem dX7_like_141 : decode cX7_like 141 = .ok (.goto 29, 3) := by decide +kernel
theorem dX7_like_144 : decode cX7_like 144 = .ok (.iload_n 1, 1) := by decide +kernel
theorem dX7_like_145 : decode cX7_like 145 = .ok (.iconst 1, 1) := by decide +kernel
theorem dX7_like_146 : decode cX7_like 146 = .ok (.if_icmp .ne 8, 3) := by decide +kernel
theorem dX7_like_149 : decode cX7_like 149 = .ok (.iload 6, 2) := by decide +kernel
theorem dX7_like_151 : decode cX7_like 151 = .ok (.goto 19, 3) := by decide +kernel
theorem dX7_like_154 : decode cX7_like 154 = .ok (.iload_n 1, 1) := by decide +kernel
theorem dX7_like_155 : decode cX7_like 155 = .ok (.iconst 3, 1) := by decide +kernel
theorem dX7_like_156 : decode cX7_like 156 = .ok (.if_icmp .ne 10, 3) := by decide +kernel
theorem dX7_like_159 : decode cX7_like 159 = .ok (.iload 5, 2) := by decide +kernel
theorem dX7_like_161 : decode cX7_like 161 = .ok (.iload_n 2, 1) := by decide +kernel
theorem dX7_like_162 : decode cX7_like 162 = .ok (.isub, 1) := by decide +kernel
theorem dX7_like_163 : decode cX7_like 163 = .ok (.goto 7, 3) := by decide +kernel
theorem dX7_like_166 : decode cX7_like 166 = .ok (.iload_n 2, 1) := by decide +kernel
theorem dX7_like_167 : decode cX7_like 167 = .ok (.iload 5, 2) := by decide +kernel
theorem dX7_like_169 : decode cX7_like 169 = .ok (.isub, 1) := by decide +kernel
theorem dX7_like_170 : decode cX7_like 170 = .ok (.istore 8, 2) := by decide +kernel
theorem dX7_like_172 : decode cX7_like 172 = .ok (.aload_n 0, 1) := by decide +kernel
theorem dX7_like_173 : decode cX7_like 173 = .ok (.getfield 14, 3) := by decide +kernel
theorem dX7_like_176 : decode cX7_like 176 = .ok (.iload 4, 2) := by decide +kernel
theorem dX7_like_178 : decode cX7_like 178 = .ok (.iaload, 1) := by decide +kernel
theorem dX7_like_179 : decode cX7_like 179 = .ok (.aload_n 0, 1) := by decide +kernel
theorem dX7_like_180 : decode cX7_like 180 = .ok (.iload 7, 2) := by decide +kernel
theorem dX7_like_182 : decode cX7_like 182 = .ok (.iload 8, 2) := by decide +kernel
theorem dX7_like_184 : decode cX7_like 184 = .ok (.invokevirtual 167, 3) := by decide +kernel
theorem dX7_like_187 : decode cX7_like 187 = .ok (.if_icmp .eq 5, 3) := by decide +kernel
theorem dX7_like_190 : decode cX7_like 190 = .ok (.iconst 0, 1) := by decide +kernel
theorem dX7_like_191 : decode cX7_like 191 = .ok (.ireturn, 1) := by decide +kernel
theorem dX7_like_192 : decode cX7_like 192 = .ok (.iinc 4 1, 3) := by decide +kernel
theorem dX7_like_195 : decode cX7_like 195 = .ok (.goto (-140), 3) := by decide +kernel
theorem dX7_like_198 : decode cX7_like 198 = .ok (.iconst 1, 1) := by decide +kernel
theorem dX7_like_199 : decode cX7_like 199 = .ok (.ireturn, 1) := by decide +kernel
set_option maxRecDepth 20000 in
theorem ggX7_isSheet_X7_in : GoodIn wsX7_isSheet wsX7_in := goodIn_r _ [4] (by decide +kernel) (by decide +kernel)
set_option maxRecDepth 20000 in
theorem gX7_isSheet_X7_in : GoodIn wsX7_isSheet (va_wsS RX7 1 yX7_in wsX7_in) := goodIn_app (goodIn_of _ (by decide +kernel)) ggX7_isSheet_X7_in
theorem dX7_isSheet_0 : decode cX7_isSheet 0 = .ok (.iload_n 0, 1) := by decide +kernel
theorem dX7_isSheet_1 : decode cX7_isSheet 1 = .ok (.iconst 0, 1) := by decide +kernel
theorem dX7_isSheet_2 : decode cX7_isSheet 2 = .ok (.iconst 3, 1) := by decide +kernel
theorem dX7_isSheet_3 : decode cX7_isSheet 3 = .ok (.invokestatic 1, 3) := by decide +kernel
theorem dX7_isSheet_6 : decode cX7_isSheet 6 = .ok (.ireturn, 1) := by decide +kernel
set_option maxRecDepth 20000 in
theorem ggX7_sheet_X7_isSheet : GoodIn wsX7_sheet wsX7_isSheet := goodIn_r _ [7, 8, 9, 6, 10] (by decide +kernel) (by decide +kernel)
set_option maxRecDepth 20000 in
theorem gX7_sheet_X7_isSheet : GoodIn wsX7_sheet (va_wsS RX7 180 yX7_isSheet wsX7_isSheet) := goodIn_app (goodIn_of _ (by decide +kernel)) ggX7_sheet_X7_isSheet
set_option maxRecDepth 20000 in
theorem ggX7_sheet_X7_in : GoodIn wsX7_sheet wsX7_in := goodIn_r _ [10] (by decide +kernel) (by decide +kernel)
set_option maxRecDepth 20000 in
theorem gX7_sheet_X7_in : GoodIn wsX7_sheet (va_wsS RX7 1 yX7_in wsX7_in) := goodIn_app (goodIn_of _ (by decide +kernel)) ggX7_sheet_X7_in
theorem dX7_sheet_0 : decode cX7_sheet 0 = .ok (.iload_n 1, 1) := by decide +kernel
theorem dX7_sheet_1 : decode cX7_sheet 1 = .ok (.invokestatic 180, 3) := by decide +kernel
theorem dX7_sheet_4 : decode cX7_sheet 4 = .ok (.ifCond .eq 18, 3) := by decide +kernel
theorem dX7_sheet_7 : decode cX7_sheet 7 = .ok (.iload_n 2, 1) := by decide +kernel
theorem dX7_sheet_8 : decode cX7_sheet 8 = .ok (.iconst 0, 1) := by decide +kernel
theorem dX7_sheet_9 : decode cX7_sheet 9 = .ok (.iconst 2, 1) := by decide +kernel
theorem dX7_sheet_10 : decode cX7_sheet 10 = .ok (.invokestatic 1, 3) := by decide +kernel
theorem dX7_sheet_13 : decode cX7_sheet 13 = .ok (.ifCond .eq 9, 3) := by decide +kernel
theorem dX7_sheet_16 : decode cX7_sheet 16 = .ok (.iload_n 3, 1) := by decide +kernel
theorem dX7_sheet_17 : decode cX7_sheet 17 = .ok (.bipush 60, 2) := by decide +kernel
theorem dX7_sheet_19 : decode cX7_sheet 19 = .ok (.if_icmp .le 5, 3) := by decide +kernel
theorem dX7_sheet_22 : decode cX7_sheet 22 = .ok (.iconst (-1), 1) := by decide +kernel
theorem dX7_sheet_23 : decode cX7_sheet 23 = .ok (.ireturn, 1) := by decide +kernel
theorem dX7_sheet_24 : decode cX7_sheet 24 = .ok (.iload_n 3, 1) := by decide +kernel
theorem dX7_sheet_25 : decode cX7_sheet 25 = .ok (.ifCond .ge 6, 3) := by decide +kernel
theorem dX7_sheet_28 : decode cX7_sheet 28 = .ok (.bipush (-14), 2) := by decide +kernel
theorem dX7_sheet_30 : decode cX7_sheet 30 = .ok (.ireturn, 1) := by decide +kernel
theorem dX7_sheet_31 : decode cX7_sheet 31 = .ok (.aload_n 0, 1) := by decide +kernel
theorem dX7_sheet_32 : decode cX7_sheet 32 = .ok (.getfield 61, 3) := by decide +kernel
theorem dX7_sheet_35 : decode cX7_sheet 35 = .ok (.iload_n 1, 1) := by decide +kernel
theorem dX7_sheet_36 : decode cX7_sheet 36 = .ok (.iload_n 2, 1) := by decide +kernel
theorem dX7_sheet_37 : decode cX7_sheet 37 = .ok (.iastore, 1) := by decide +kernel
theorem dX7_sheet_38 : decode cX7_sheet 38 = .ok (.aload_n 0, 1) := by decide +kernel
theorem dX7_sheet_39 : decode cX7_sheet 39 = .ok (.getfield 64, 3) := by decide +kernel
theorem dX7_sheet_42 : decode cX7_sheet 42 = .ok (.iload_n 1, 1) := by decide +kernel
theorem dX7_sheet_43 : decode cX7_sheet 43 = .ok (.iload_n 3, 1) := by decide +kernel
theorem dX7_sheet_44 : decode cX7_sheet 44 = .ok (.iastore, 1) := by decide +kernel
theorem dX7_sheet_45 : decode cX7_sheet 45 = .ok (.iconst 0, 1) := by decide +kernel
theorem dX7_sheet_46 : decode cX7_sheet 46 = .ok (.istore 4, 2) := by decide +kernel
theorem dX7_sheet_48 : decode cX7_sheet 48 = .ok (.iload 4, 2) := by decide +kernel
theorem dX7_sheet_50 : decode cX7_sheet 50 = .ok (.bipush 60, 2) := by decide +kernel
theorem dX7_sheet_52 : decode cX7_sheet 52 = .ok (.if_icmp .ge 22, 3) := by decide +kernel
theorem dX7_sheet_55 : decode cX7_sheet 55 = .ok (.aload_n 0, 1) := by decide +kernel
theorem dX7_sheet_56 : decode cX7_sheet 56 = .ok (.getfield 67, 3) := by decide +kernel
theorem dX7_sheet_59 : decode cX7_sheet 59 = .ok (.bipush 60, 2) := by decide +kernel
theorem dX7_sheet_61 : decode cX7_sheet 61 = .ok (.iload_n 1, 1) := by decide +kernel
theorem dX7_sheet_62 : decode cX7_sheet 62 = .ok (.imul, 1) := by decide +kernel
theorem dX7_sheet_63 : decode cX7_sheet 63 = .ok (.iload 4, 2) := by decide +kernel
theorem dX7_sheet_65 : decode cX7_sheet 65 = .ok (.iadd, 1) := by decide +kernel
theorem dX7_sheet_66 : decode cX7_sheet 66 = .ok (.iconst 0, 1) := by decide +kernel
theorem dX7_sheet_67 : decode cX7_sheet 67 = .ok (.iastore, 1) := by decide +kernel
theorem dX7_sheet_68 : decode cX7_sheet 68 = .ok (.iinc 4 1, 3) := by decide +kernel
theorem dX7_sheet_71 : decode cX7_sheet 71 = .ok (.goto (-23), 3) := by decide +kernel
theorem dX7_sheet_74 : decode cX7_sheet 74 = .ok (.iload_n 3, 1) := by decide +kernel
theorem dX7_sheet_75 : decode cX7_sheet 75 = .ok (.ireturn, 1) := by decide +kernel
set_option maxRecDepth 20000 in
theorem ggX7_drop_X7_isSheet : GoodIn wsX7_drop wsX7_isSheet := goodIn_r _ [6, 7, 8, 5, 9] (by decide +kernel) (by decide +kernel)
set_option maxRecDepth 20000 in
theorem gX7_drop_X7_isSheet : GoodIn wsX7_drop (va_wsS RX7 180 yX7_isSheet wsX7_isSheet) := goodIn_app (goodIn_of _ (by decide +kernel)) ggX7_drop_X7_isSheet
theorem dX7_drop_0 : decode cX7_drop 0 = .ok (.iload_n 1, 1) := by decide +kernel
theorem dX7_drop_1 : decode cX7_drop 1 = .ok (.invokestatic 180, 3) := by decide +kernel
theorem dX7_drop_4 : decode cX7_drop 4 = .ok (.ifCond .ne 5, 3) := by decide +kernel
theorem dX7_drop_7 : decode cX7_drop 7 = .ok (.iconst (-1), 1) := by decide +kernel
theorem dX7_drop_8 : decode cX7_drop 8 = .ok (.ireturn, 1) := by decide +kernel
theorem dX7_drop_9 : decode cX7_drop 9 = .ok (.aload_n 0, 1) := by decide +kernel
theorem dX7_drop_10 : decode cX7_drop 10 = .ok (.getfield 61, 3) := by decide +kernel
theorem dX7_drop_13 : decode cX7_drop 13 = .ok (.iload_n 1, 1) := by decide +kernel
theorem dX7_drop_14 : decode cX7_drop 14 = .ok (.iaload, 1) := by decide +kernel
theorem dX7_drop_15 : decode cX7_drop 15 = .ok (.ifCond .ge 6, 3) := by decide +kernel
theorem dX7_drop_18 : decode cX7_drop 18 = .ok (.bipush (-11), 2) := by decide +kernel
theorem dX7_drop_20 : decode cX7_drop 20 = .ok (.ireturn, 1) := by decide +kernel
theorem dX7_drop_21 : decode cX7_drop 21 = .ok (.aload_n 0, 1) := by decide +kernel
theorem dX7_drop_22 : decode cX7_drop 22 = .ok (.getfield 61, 3) := by decide +kernel
theorem dX7_drop_25 : decode cX7_drop 25 = .ok (.iload_n 1, 1) := by decide +kernel
theorem dX7_drop_26 : decode cX7_drop 26 = .ok (.iconst (-1), 1) := by decide +kernel
theorem dX7_drop_27 : decode cX7_drop 27 = .ok (.iastore, 1) := by decide +kernel
theorem dX7_drop_28 : decode cX7_drop 28 = .ok (.aload_n 0, 1) := by decide +kernel
theorem dX7_drop_29 : decode cX7_drop 29 = .ok (.getfield 64, 3) := by decide +kernel
theorem dX7_drop_32 : decode cX7_drop 32 = .ok (.iload_n 1, 1) := by decide +kernel
theorem dX7_drop_33 : decode cX7_drop 33 = .ok (.iaload, 1) := by decide +kernel
theorem dX7_drop_34 : decode cX7_drop 34 = .ok (.ireturn, 1) := by decide +kernel
set_option maxRecDepth 20000 in
theorem ggX7_item_X7_isSheet : GoodIn wsX7_item wsX7_isSheet := goodIn_r _ [7, 8, 9, 6, 10] (by decide +kernel) (by decide +kernel)
set_option maxRecDepth 20000 in
theorem gX7_item_X7_isSheet : GoodIn wsX7_item (va_wsS RX7 180 yX7_isSheet wsX7_isSheet) := goodIn_app (goodIn_of _ (by decide +kernel)) ggX7_item_X7_isSheet
set_option maxRecDepth 20000 in
theorem ggX7_item_X7_in : GoodIn wsX7_item wsX7_in := goodIn_r _ [10] (by decide +kernel) (by decide +kernel)
set_option maxRecDepth 20000 in
theorem gX7_item_X7_in : GoodIn wsX7_item (va_wsS RX7 1 yX7_in wsX7_in) := goodIn_app (goodIn_of _ (by decide +kernel)) ggX7_item_X7_in
theorem dX7_item_0 : decode cX7_item 0 = .ok (.iload_n 1, 1) := by decide +kernel
theorem dX7_item_1 : decode cX7_item 1 = .ok (.invokestatic 180, 3) := by decide +kernel
theorem dX7_item_4 : decode cX7_item 4 = .ok (.ifCond .eq 12, 3) := by decide +kernel
theorem dX7_item_7 : decode cX7_item 7 = .ok (.iload_n 2, 1) := by decide +kernel
theorem dX7_item_8 : decode cX7_item 8 = .ok (.iconst 0, 1) := by decide +kernel
theorem dX7_item_9 : decode cX7_item 9 = .ok (.iconst 2, 1) := by decide +kernel
theorem dX7_item_10 : decode cX7_item 10 = .ok (.invokestatic 1, 3) := by decide +kernel
theorem dX7_item_13 : decode cX7_item 13 = .ok (.ifCond .ne 5, 3) := by decide +kernel
theorem dX7_item_16 : decode cX7_item 16 = .ok (.iconst (-1), 1) := by decide +kernel
theorem dX7_item_17 : decode cX7_item 17 = .ok (.ireturn, 1) := by decide +kernel
theorem dX7_item_18 : decode cX7_item 18 = .ok (.aload_n 0, 1) := by decide +kernel
theorem dX7_item_19 : decode cX7_item 19 = .ok (.getfield 61, 3) := by decide +kernel
theorem dX7_item_22 : decode cX7_item 22 = .ok (.iload_n 1, 1) := by decide +kernel
theorem dX7_item_23 : decode cX7_item 23 = .ok (.iaload, 1) := by decide +kernel
theorem dX7_item_24 : decode cX7_item 24 = .ok (.ifCond .ge 6, 3) := by decide +kernel
theorem dX7_item_27 : decode cX7_item 27 = .ok (.bipush (-11), 2) := by decide +kernel
theorem dX7_item_29 : decode cX7_item 29 = .ok (.ireturn, 1) := by decide +kernel
theorem dX7_item_30 : decode cX7_item 30 = .ok (.aload_n 0, 1) := by decide +kernel
theorem dX7_item_31 : decode cX7_item 31 = .ok (.getfield 61, 3) := by decide +kernel
theorem dX7_item_34 : decode cX7_item 34 = .ok (.iload_n 1, 1) := by decide +kernel
theorem dX7_item_35 : decode cX7_item 35 = .ok (.iaload, 1) := by decide +kernel
theorem dX7_item_36 : decode cX7_item 36 = .ok (.iload_n 2, 1) := by decide +kernel
theorem dX7_item_37 : decode cX7_item 37 = .ok (.if_icmp .eq 6, 3) := by decide +kernel
theorem dX7_item_40 : decode cX7_item 40 = .ok (.bipush (-12), 2) := by decide +kernel
theorem dX7_item_42 : decode cX7_item 42 = .ok (.ireturn, 1) := by decide +kernel
theorem dX7_item_43 : decode cX7_item 43 = .ok (.iload_n 3, 1) := by decide +kernel
theorem dX7_item_44 : decode cX7_item 44 = .ok (.iconst 0, 1) := by decide +kernel
theorem dX7_item_45 : decode cX7_item 45 = .ok (.aload_n 0, 1) := by decide +kernel
theorem dX7_item_46 : decode cX7_item 46 = .ok (.getfield 64, 3) := by decide +kernel
theorem dX7_item_49 : decode cX7_item 49 = .ok (.iload_n 1, 1) := by decide +kernel
theorem dX7_item_50 : decode cX7_item 50 = .ok (.iaload, 1) := by decide +kernel
theorem dX7_item_51 : decode cX7_item 51 = .ok (.iconst 1, 1) := by decide +kernel
theorem dX7_item_52 : decode cX7_item 52 = .ok (.isub, 1) := by decide +kernel
theorem dX7_item_53 : decode cX7_item 53 = .ok (.invokestatic 1, 3) := by decide +kernel
theorem dX7_item_56 : decode cX7_item 56 = .ok (.ifCond .ne 6, 3) := by decide +kernel
theorem dX7_item_59 : decode cX7_item 59 = .ok (.bipush (-13), 2) := by decide +kernel
theorem dX7_item_61 : decode cX7_item 61 = .ok (.ireturn, 1) := by decide +kernel
theorem dX7_item_62 : decode cX7_item 62 = .ok (.aload_n 0, 1) := by decide +kernel
theorem dX7_item_63 : decode cX7_item 63 = .ok (.getfield 67, 3) := by decide +kernel
theorem dX7_item_66 : decode cX7_item 66 = .ok (.bipush 60, 2) := by decide +kernel
theorem dX7_item_68 : decode cX7_item 68 = .ok (.iload_n 1, 1) := by decide +kernel
theorem dX7_item_69 : decode cX7_item 69 = .ok (.imul, 1) := by decide +kernel
theorem dX7_item_70 : decode cX7_item 70 = .ok (.iload_n 3, 1) := by decide +kernel
theorem dX7_item_71 : decode cX7_item 71 = .ok (.iadd, 1) := by decide +kernel
theorem dX7_item_72 : decode cX7_item 72 = .ok (.iload_n 2, 1) := by decide +kernel
theorem dX7_item_73 : decode cX7_item 73 = .ok (.ifCond .ne 9, 3) := by decide +kernel
theorem dX7_item_76 : decode cX7_item 76 = .ok (.iload 4, 2) := by decide +kernel
theorem dX7_item_78 : decode cX7_item 78 = .ok (.i2b, 1) := by decide +kernel
theorem dX7_item_79 : decode cX7_item 79 = .ok (.goto 16, 3) := by decide +kernel
theorem dX7_item_82 : decode cX7_item 82 = .ok (.iload_n 2, 1) := by decide +kernel
theorem dX7_item_83 : decode cX7_item 83 = .ok (.iconst 1, 1) := by decide +kernel
theorem dX7_item_84 : decode cX7_item 84 = .ok (.if_icmp .ne 9, 3) := by decide +kernel
theorem dX7_item_87 : decode cX7_item 87 = .ok (.iload 4, 2) := by decide +kernel
theorem dX7_item_89 : decode cX7_item 89 = .ok (.i2s, 1) := by decide +kernel
theorem dX7_item_90 : decode cX7_item 90 = .ok (.goto 5, 3) := by decide +kernel
theorem dX7_item_93 : decode cX7_item 93 = .ok (.iload 4, 2) := by decide +kernel
theorem dX7_item_95 : decode cX7_item 95 = .ok (.iastore, 1) := by decide +kernel
theorem dX7_item_96 : decode cX7_item 96 = .ok (.iconst 1, 1) := by decide +kernel
theorem dX7_item_97 : decode cX7_item 97 = .ok (.ireturn, 1) := by decide +kernel
theorem dX7_isWithin_0 : decode cX7_isWithin 0 = .ok (.iload_n 2, 1) := by decide +kernel
theorem dX7_isWithin_1 : decode cX7_isWithin 1 = .ok (.ifCond .lt 23, 3) := by decide +kernel
theorem dX7_isWithin_4 : decode cX7_isWithin 4 = .ok (.iload_n 2, 1) := by decide +kernel
theorem dX7_isWithin_5 : decode cX7_isWithin 5 = .ok (.i2l, 1) := by decide +kernel
theorem dX7_isWithin_6 : decode cX7_isWithin 6 = .ok (.iload_n 3, 1) := by decide +kernel
theorem dX7_isWithin_7 : decode cX7_isWithin 7 = .ok (.i2l, 1) := by decide +kernel
theorem dX7_isWithin_8 : decode cX7_isWithin 8 = .ok (.ladd, 1) := by decide +kernel
theorem dX7_isWithin_9 : decode cX7_isWithin 9 = .ok (.aload_n 0, 1) := by decide +kernel
theorem dX7_isWithin_10 : decode cX7_isWithin 10 = .ok (.getfield 64, 3) := by decide +kernel
theorem dX7_isWithin_13 : decode cX7_isWithin 13 = .ok (.iload_n 1, 1) := by decide +kernel
theorem dX7_isWithin_14 : decode cX7_isWithin 14 = .ok (.iaload, 1) := by decide +kernel
theorem dX7_isWithin_15 : decode cX7_isWithin 15 = .ok (.i2l, 1) := by decide +kernel
theorem dX7_isWithin_16 : decode cX7_isWithin 16 = .ok (.lcmp, 1) := by decide +kernel
theorem dX7_isWithin_17 : decode cX7_isWithin 17 = .ok (.ifCond .gt 7, 3) := by decide +kernel
theorem dX7_isWithin_20 : decode cX7_isWithin 20 = .ok (.iconst 1, 1) := by decide +kernel
theorem dX7_isWithin_21 : decode cX7_isWithin 21 = .ok (.goto 4, 3) := by decide +kernel
theorem dX7_isWithin_24 : decode cX7_isWithin 24 = .ok (.iconst 0, 1) := by decide +kernel
theorem dX7_isWithin_25 : decode cX7_isWithin 25 = .ok (.ireturn, 1) := by decide +kernel
set_option maxRecDepth 20000 in
theorem ggX7_lay_X7_isSheet : GoodIn wsX7_lay wsX7_isSheet := goodIn_r _ [9, 10, 11, 8, 12] (by decide +kernel) (by decide +kernel)
set_option maxRecDepth 20000 in
theorem gX7_lay_X7_isSheet : GoodIn wsX7_lay (va_wsS RX7 180 yX7_isSheet wsX7_isSheet) := goodIn_app (goodIn_of _ (by decide +kernel)) ggX7_lay_X7_isSheet
set_option maxRecDepth 20000 in
theorem ggX7_lay_X7_in : GoodIn wsX7_lay wsX7_in := goodIn_r _ [12] (by decide +kernel) (by decide +kernel)
set_option maxRecDepth 20000 in
theorem gX7_lay_X7_in : GoodIn wsX7_lay (va_wsS RX7 1 yX7_in wsX7_in) := goodIn_app (goodIn_of _ (by decide +kernel)) ggX7_lay_X7_in
set_option maxRecDepth 20000 in
theorem ggX7_lay_X7_isWithin : GoodIn wsX7_lay wsX7_isWithin := goodIn_r _ [16, 17, 21, 22, 23, 24, 25, 26, 27, 28, 29, 30, 31, 32, 33, 34, 35, 36, 37, 38, 39, 40, 41, 42, 43, 44, 45, 46, 47, 48, 49, 50, 51, 52, 53] (by decide +kernel) (by decide +kernel)
set_option maxRecDepth 20000 in
theorem gX7_lay_X7_isWithin : GoodIn wsX7_lay (wsV RX7 183 RX7 yX7_isWithin wsX7_isWithin) := goodIn_app (goodIn_of _ (by decide +kernel)) ggX7_lay_X7_isWithin
set_option maxRecDepth 20000 in
theorem ggX7_lay_X7_cell : GoodIn wsX7_lay wsX7_cell := goodIn_r _ [20] (by decide +kernel) (by decide +kernel)
set_option maxRecDepth 20000 in
theorem gX7_lay_X7_cell : GoodIn wsX7_lay (va_wsS RX7 117 yX7_cell wsX7_cell) := goodIn_app (goodIn_of _ (by decide +kernel)) ggX7_lay_X7_cell
theorem dX7_lay_0 : decode cX7_lay 0 = .ok (.iload_n 1, 1) := by decide +kernel
