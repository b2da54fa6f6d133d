theorem dX6_init_1 : decode cX6_init 1 = .ok (.invokespecial 3, 3) := by decide +kernel
theorem dX6_init_4 : decode cX6_init 4 = .ok (.aload_n 0, 1) := by decide +kernel
theorem dX6_init_5 : decode cX6_init 5 = .ok (.new 9, 3) := by decide +kernel
theorem dX6_init_8 : decode cX6_init 8 = .ok (.dup, 1) := by decide +kernel
theorem dX6_init_9 : decode cX6_init 9 = .ok (.invokespecial 11, 3) := by decide +kernel
theorem dX6_init_12 : decode cX6_init 12 = .ok (.putfield 12, 3) := by decide +kernel
theorem dX6_init_15 : decode cX6_init 15 = .ok (.aload_n 0, 1) := by decide +kernel
theorem dX6_init_16 : decode cX6_init 16 = .ok (.new 16, 3) := by decide +kernel
theorem dX6_init_19 : decode cX6_init 19 = .ok (.dup, 1) := by decide +kernel
theorem dX6_init_20 : decode cX6_init 20 = .ok (.invokespecial 18, 3) := by decide +kernel
theorem dX6_init_23 : decode cX6_init 23 = .ok (.putfield 19, 3) := by decide +kernel
theorem dX6_init_26 : decode cX6_init 26 = .ok (.aload_n 0, 1) := by decide +kernel
theorem dX6_init_27 : decode cX6_init 27 = .ok (.bipush 6, 2) := by decide +kernel
theorem dX6_init_29 : decode cX6_init 29 = .ok (.anewarray 23, 3) := by decide +kernel
theorem dX6_init_32 : decode cX6_init 32 = .ok (.putfield 25, 3) := by decide +kernel
theorem dX6_init_35 : decode cX6_init 35 = .ok (.iconst 0, 1) := by decide +kernel
theorem dX6_init_36 : decode cX6_init 36 = .ok (.istore_n 1, 1) := by decide +kernel
theorem dX6_init_37 : decode cX6_init 37 = .ok (.iload_n 1, 1) := by decide +kernel
theorem dX6_init_38 : decode cX6_init 38 = .ok (.bipush 6, 2) := by decide +kernel
theorem dX6_init_40 : decode cX6_init 40 = .ok (.if_icmp .ge 22, 3) := by decide +kernel
theorem dX6_init_43 : decode cX6_init 43 = .ok (.aload_n 0, 1) := by decide +kernel
theorem dX6_init_44 : decode cX6_init 44 = .ok (.getfield 25, 3) := by decide +kernel
theorem dX6_init_47 : decode cX6_init 47 = .ok (.iload_n 1, 1) := by decide +kernel
theorem dX6_init_48 : decode cX6_init 48 = .ok (.new 23, 3) := by decide +kernel
theorem dX6_init_51 : decode cX6_init 51 = .ok (.dup, 1) := by decide +kernel
theorem dX6_init_52 : decode cX6_init 52 = .ok (.invokespecial 29, 3) := by decide +kernel
theorem dX6_init_55 : decode cX6_init 55 = .ok (.aastore, 1) := by decide +kernel
theorem dX6_init_56 : decode cX6_init 56 = .ok (.iinc 1 1, 3) := by decide +kernel
theorem dX6_init_59 : decode cX6_init 59 = .ok (.goto (-22), 3) := by decide +kernel
theorem dX6_init_62 : decode cX6_init 62 = .ok (.aload_n 0, 1) := by decide +kernel
theorem dX6_init_63 : decode cX6_init 63 = .ok (.bipush 6, 2) := by decide +kernel
theorem dX6_init_65 : decode cX6_init 65 = .ok (.newarray .int, 2) := by decide +kernel
theorem dX6_init_67 : decode cX6_init 67 = .ok (.putfield 30, 3) := by decide +kernel
theorem dX6_init_70 : decode cX6_init 70 = .ok (.aload_n 0, 1) := by decide +kernel
theorem dX6_init_71 : decode cX6_init 71 = .ok (.new 34, 3) := by decide +kernel
theorem dX6_init_74 : decode cX6_init 74 = .ok (.dup, 1) := by decide +kernel
theorem dX6_init_75 : decode cX6_init 75 = .ok (.invokespecial 36, 3) := by decide +kernel
theorem dX6_init_78 : decode cX6_init 78 = .ok (.putfield 37, 3) := by decide +kernel
theorem dX6_init_81 : decode cX6_init 81 = .ok (.aload_n 0, 1) := by decide +kernel
theorem dX6_init_82 : decode cX6_init 82 = .ok (.new 41, 3) := by decide +kernel
theorem dX6_init_85 : decode cX6_init 85 = .ok (.dup, 1) := by decide +kernel
theorem dX6_init_86 : decode cX6_init 86 = .ok (.invokespecial 43, 3) := by decide +kernel
theorem dX6_init_89 : decode cX6_init 89 = .ok (.putfield 44, 3) := by decide +kernel
theorem dX6_init_92 : decode cX6_init 92 = .ok (.aload_n 0, 1) := by decide +kernel
theorem dX6_init_93 : decode cX6_init 93 = .ok (.iconst 4, 1) := by decide +kernel
theorem dX6_init_94 : decode cX6_init 94 = .ok (.anewarray 48, 3) := by decide +kernel
theorem dX6_init_97 : decode cX6_init 97 = .ok (.putfield 50, 3) := by decide +kernel
theorem dX6_init_100 : decode cX6_init 100 = .ok (.iconst 0, 1) := by decide +kernel
theorem dX6_init_101 : decode cX6_init 101 = .ok (.istore_n 1, 1) := by decide +kernel
theorem dX6_init_102 : decode cX6_init 102 = .ok (.iload_n 1, 1) := by decide +kernel
theorem dX6_init_103 : decode cX6_init 103 = .ok (.iconst 4, 1) := by decide +kernel
theorem dX6_init_104 : decode cX6_init 104 = .ok (.if_icmp .ge 22, 3) := by decide +kernel
theorem dX6_init_107 : decode cX6_init 107 = .ok (.aload_n 0, 1) := by decide +kernel
theorem dX6_init_108 : decode cX6_init 108 = .ok (.getfield 50, 3) := by decide +kernel
theorem dX6_init_111 : decode cX6_init 111 = .ok (.iload_n 1, 1) := by decide +kernel
theorem dX6_init_112 : decode cX6_init 112 = .ok (.new 48, 3) := by decide +kernel
theorem dX6_init_115 : decode cX6_init 115 = .ok (.dup, 1) := by decide +kernel
theorem dX6_init_116 : decode cX6_init 116 = .ok (.invokespecial 54, 3) := by decide +kernel
theorem dX6_init_119 : decode cX6_init 119 = .ok (.aastore, 1) := by decide +kernel
theorem dX6_init_120 : decode cX6_init 120 = .ok (.iinc 1 1, 3) := by decide +kernel
theorem dX6_init_123 : decode cX6_init 123 = .ok (.goto (-21), 3) := by decide +kernel
theorem dX6_init_126 : decode cX6_init 126 = .ok (.aload_n 0, 1) := by decide +kernel
theorem dX6_init_127 : decode cX6_init 127 = .ok (.getfield 19, 3) := by decide +kernel
theorem dX6_init_130 : decode cX6_init 130 = .ok (.iconst 2, 1) := by decide +kernel
theorem dX6_init_131 : decode cX6_init 131 = .ok (.aload_n 0, 1) := by decide +kernel
theorem dX6_init_132 : decode cX6_init 132 = .ok (.getfield 12, 3) := by decide +kernel
theorem dX6_init_135 : decode cX6_init 135 = .ok (.invokevirtual 55, 3) := by decide +kernel
theorem dX6_init_138 : decode cX6_init 138 = .ok (.invokevirtual 59, 3) := by decide +kernel
theorem dX6_init_141 : decode cX6_init 141 = .ok (.return_, 1) := by decide +kernel
set_option maxRecDepth 20000 in
theorem ggX6_floor_X6_isWithin : GoodIn wsX6_floor wsX6_isWithin := goodIn_r _ [10] (by decide +kernel) (by decide +kernel)
set_option maxRecDepth 20000 in
theorem gX6_floor_X6_isWithin : GoodIn wsX6_floor (va_wsS RX6 63 yX6_isWithin wsX6_isWithin) := goodIn_app (goodIn_of _ (by decide +kernel)) ggX6_floor_X6_isWithin
set_option maxRecDepth 20000 in
theorem ggX6_floor_X1_restart : GoodIn wsX6_floor wsX1_restart := goodIn_r _ [15, 16, 17, 18, 19, 20, 21, 22, 23, 58, 59, 60, 61] (by decide +kernel) (by decide +kernel)
set_option maxRecDepth 20000 in
theorem gX6_floor_X1_restart : GoodIn wsX6_floor (wsV RX6 71 RX1 yX1_restart wsX1_restart) := goodIn_app (goodIn_of _ (by decide +kernel)) ggX6_floor_X1_restart
set_option maxRecDepth 20000 in
theorem ggX6_floor_X1_directions : GoodIn wsX6_floor wsX1_directions := goodIn_r _ [27, 16, 58, 59, 60, 61] (by decide +kernel) (by decide +kernel)
set_option maxRecDepth 20000 in
theorem gX6_floor_X1_directions : GoodIn wsX6_floor (wsV RX6 55 RX1 yX1_directions wsX1_directions) := goodIn_app (goodIn_of _ (by decide +kernel)) ggX6_floor_X1_directions
set_option maxRecDepth 20000 in
theorem ggX6_floor_X4_restart : GoodIn wsX6_floor wsX4_restart := goodIn_r _ [32, 33, 34, 35, 31, 36, 62, 63, 64] (by decide +kernel) (by decide +kernel)
set_option maxRecDepth 20000 in
theorem gX6_floor_X4_restart : GoodIn wsX6_floor (wsV RX6 59 RX4 yX4_restart wsX4_restart) := goodIn_app (goodIn_of _ (by decide +kernel)) ggX6_floor_X4_restart
set_option maxRecDepth 20000 in
theorem ggX6_floor_X3_forget : GoodIn wsX6_floor wsX3_forget := goodIn_r _ [41, 42, 65, 66, 67, 68, 69] (by decide +kernel) (by decide +kernel)
set_option maxRecDepth 20000 in
theorem gX6_floor_X3_forget : GoodIn wsX6_floor (wsV RX6 72 RX3 yX3_forget wsX3_forget) := goodIn_app (goodIn_of _ (by decide +kernel)) ggX6_floor_X3_forget
set_option maxRecDepth 20000 in
theorem ggX6_floor_X2_forget : GoodIn wsX6_floor wsX2_forget := goodIn_r _ [47, 48, 70, 71, 72, 73, 74, 75, 76] (by decide +kernel) (by decide +kernel)
set_option maxRecDepth 20000 in
theorem gX6_floor_X2_forget : GoodIn wsX6_floor (wsV RX6 75 RX2 yX2_forget wsX2_forget) := goodIn_app (goodIn_of _ (by decide +kernel)) ggX6_floor_X2_forget
theorem dX6_floor_0 : decode cX6_floor 0 = .ok (.iload_n 1, 1) := by decide +kernel
theorem dX6_floor_1 : decode cX6_floor 1 = .ok (.iconst 0, 1) := by decide +kernel
theorem dX6_floor_2 : decode cX6_floor 2 = .ok (.iconst 1, 1) := by decide +kernel
theorem dX6_floor_3 : decode cX6_floor 3 = .ok (.invokestatic 63, 3) := by decide +kernel
theorem dX6_floor_6 : decode cX6_floor 6 = .ok (.ifCond .eq 13, 3) := by decide +kernel
theorem dX6_floor_9 : decode cX6_floor 9 = .ok (.iload_n 2, 1) := by decide +kernel
theorem dX6_floor_10 : decode cX6_floor 10 = .ok (.iconst 2, 1) := by decide +kernel
theorem dX6_floor_11 : decode cX6_floor 11 = .ok (.bipush 12, 2) := by decide +kernel
theorem dX6_floor_13 : decode cX6_floor 13 = .ok (.invokestatic 63, 3) := by decide +kernel
theorem dX6_floor_16 : decode cX6_floor 16 = .ok (.ifCond .ne 5, 3) := by decide +kernel
theorem dX6_floor_19 : decode cX6_floor 19 = .ok (.iconst (-1), 1) := by decide +kernel
theorem dX6_floor_20 : decode cX6_floor 20 = .ok (.ireturn, 1) := by decide +kernel
theorem dX6_floor_21 : decode cX6_floor 21 = .ok (.aload_n 0, 1) := by decide +kernel
theorem dX6_floor_22 : decode cX6_floor 22 = .ok (.getfield 67, 3) := by decide +kernel
theorem dX6_floor_25 : decode cX6_floor 25 = .ok (.istore_n 3, 1) := by decide +kernel
theorem dX6_floor_26 : decode cX6_floor 26 = .ok (.aload_n 0, 1) := by decide +kernel
theorem dX6_floor_27 : decode cX6_floor 27 = .ok (.getfield 12, 3) := by decide +kernel
theorem dX6_floor_30 : decode cX6_floor 30 = .ok (.iload_n 1, 1) := by decide +kernel
theorem dX6_floor_31 : decode cX6_floor 31 = .ok (.iload_n 2, 1) := by decide +kernel
theorem dX6_floor_32 : decode cX6_floor 32 = .ok (.invokevirtual 71, 3) := by decide +kernel
theorem dX6_floor_35 : decode cX6_floor 35 = .ok (.aload_n 0, 1) := by decide +kernel
theorem dX6_floor_36 : decode cX6_floor 36 = .ok (.getfield 19, 3) := by decide +kernel
theorem dX6_floor_39 : decode cX6_floor 39 = .ok (.iload_n 2, 1) := by decide +kernel
theorem dX6_floor_40 : decode cX6_floor 40 = .ok (.aload_n 0, 1) := by decide +kernel
theorem dX6_floor_41 : decode cX6_floor 41 = .ok (.getfield 12, 3) := by decide +kernel
theorem dX6_floor_44 : decode cX6_floor 44 = .ok (.invokevirtual 55, 3) := by decide +kernel
theorem dX6_floor_47 : decode cX6_floor 47 = .ok (.invokevirtual 59, 3) := by decide +kernel
theorem dX6_floor_50 : decode cX6_floor 50 = .ok (.aload_n 0, 1) := by decide +kernel
theorem dX6_floor_51 : decode cX6_floor 51 = .ok (.getfield 37, 3) := by decide +kernel
theorem dX6_floor_54 : decode cX6_floor 54 = .ok (.invokevirtual 72, 3) := by decide +kernel
theorem dX6_floor_57 : decode cX6_floor 57 = .ok (.aload_n 0, 1) := by decide +kernel
theorem dX6_floor_58 : decode cX6_floor 58 = .ok (.getfield 44, 3) := by decide +kernel
theorem dX6_floor_61 : decode cX6_floor 61 = .ok (.invokevirtual 75, 3) := by decide +kernel
theorem dX6_floor_64 : decode cX6_floor 64 = .ok (.aload_n 0, 1) := by decide +kernel
theorem dX6_floor_65 : decode cX6_floor 65 = .ok (.iconst 0, 1) := by decide +kernel
theorem dX6_floor_66 : decode cX6_floor 66 = .ok (.putfield 67, 3) := by decide +kernel
theorem dX6_floor_69 : decode cX6_floor 69 = .ok (.aload_n 0, 1) := by decide +kernel
theorem dX6_floor_70 : decode cX6_floor 70 = .ok (.iconst 0, 1) := by decide +kernel
theorem dX6_floor_71 : decode cX6_floor 71 = .ok (.putfield 76, 3) := by decide +kernel
theorem dX6_floor_74 : decode cX6_floor 74 = .ok (.iload_n 3, 1) := by decide +kernel
theorem dX6_floor_75 : decode cX6_floor 75 = .ok (.ireturn, 1) := by decide +kernel
set_option maxRecDepth 20000 in
theorem ggX6_type_X6_isWithin : GoodIn wsX6_type wsX6_isWithin := goodIn_r _ [5] (by decide +kernel) (by decide +kernel)
set_option maxRecDepth 20000 in
theorem gX6_type_X6_isWithin : GoodIn wsX6_type (va_wsS RX6 63 yX6_isWithin wsX6_isWithin) := goodIn_app (goodIn_of _ (by decide +kernel)) ggX6_type_X6_isWithin
set_option maxRecDepth 20000 in
theorem ggX6_type_X4_hasRoomFor : GoodIn wsX6_type wsX4_hasRoomFor := goodIn_r _ [10, 11, 26, 27, 28] (by decide +kernel) (by decide +kernel)
set_option maxRecDepth 20000 in
theorem gX6_type_X4_hasRoomFor : GoodIn wsX6_type (wsV RX6 79 RX4 yX4_hasRoomFor wsX4_hasRoomFor) := goodIn_app (goodIn_of _ (by decide +kernel)) ggX6_type_X4_hasRoomFor
set_option maxRecDepth 20000 in
theorem ggX6_type_X4_takeBytes : GoodIn wsX6_type wsX4_takeBytes := goodIn_r _ [15, 16, 11, 26, 27, 28] (by decide +kernel) (by decide +kernel)
set_option maxRecDepth 20000 in
theorem gX6_type_X4_takeBytes : GoodIn wsX6_type (wsV RX6 83 RX4 yX4_takeBytes wsX4_takeBytes) := goodIn_app (goodIn_of _ (by decide +kernel)) ggX6_type_X4_takeBytes
theorem dX6_type_0 : decode cX6_type 0 = .ok (.iload_n 3, 1) := by decide +kernel
theorem dX6_type_1 : decode cX6_type 1 = .ok (.iconst 1, 1) := by decide +kernel
theorem dX6_type_2 : decode cX6_type 2 = .ok (.bipush 8, 2) := by decide +kernel
theorem dX6_type_4 : decode cX6_type 4 = .ok (.invokestatic 63, 3) := by decide +kernel
theorem dX6_type_7 : decode cX6_type 7 = .ok (.ifCond .ne 5, 3) := by decide +kernel
theorem dX6_type_10 : decode cX6_type 10 = .ok (.iconst (-1), 1) := by decide +kernel
theorem dX6_type_11 : decode cX6_type 11 = .ok (.ireturn, 1) := by decide +kernel
theorem dX6_type_12 : decode cX6_type 12 = .ok (.aload_n 0, 1) := by decide +kernel
theorem dX6_type_13 : decode cX6_type 13 = .ok (.getfield 19, 3) := by decide +kernel
theorem dX6_type_16 : decode cX6_type 16 = .ok (.iload_n 3, 1) := by decide +kernel
theorem dX6_type_17 : decode cX6_type 17 = .ok (.invokevirtual 79, 3) := by decide +kernel
theorem dX6_type_20 : decode cX6_type 20 = .ok (.ifCond .eq 15, 3) := by decide +kernel
theorem dX6_type_23 : decode cX6_type 23 = .ok (.aload_n 0, 1) := by decide +kernel
theorem dX6_type_24 : decode cX6_type 24 = .ok (.getfield 19, 3) := by decide +kernel
theorem dX6_type_27 : decode cX6_type 27 = .ok (.lload_n 1, 1) := by decide +kernel
theorem dX6_type_28 : decode cX6_type 28 = .ok (.iload_n 3, 1) := by decide +kernel
theorem dX6_type_29 : decode cX6_type 29 = .ok (.invokevirtual 83, 3) := by decide +kernel
theorem dX6_type_32 : decode cX6_type 32 = .ok (.goto 5, 3) := by decide +kernel
theorem dX6_type_35 : decode cX6_type 35 = .ok (.bipush (-3), 2) := by decide +kernel
theorem dX6_type_37 : decode cX6_type 37 = .ok (.ireturn, 1) := by decide +kernel
set_option maxRecDepth 20000 in
theorem ggX6_rule_X6_isRule : GoodIn wsX6_rule wsX6_isRule := goodIn_r _ [8, 9, 10, 7, 11] (by decide +kernel) (by decide +kernel)
set_option maxRecDepth 20000 in
theorem gX6_rule_X6_isRule : GoodIn wsX6_rule (va_wsS RX6 87 yX6_isRule wsX6_isRule) := goodIn_app (goodIn_of _ (by decide +kernel)) ggX6_rule_X6_isRule
set_option maxRecDepth 20000 in
theorem ggX6_rule_X1_directions : GoodIn wsX6_rule wsX1_directions := goodIn_r _ [16, 17, 44, 45, 46, 47] (by decide +kernel) (by decide +kernel)
set_option maxRecDepth 20000 in
theorem gX6_rule_X1_directions : GoodIn wsX6_rule (wsV RX6 55 RX1 yX1_directions wsX1_directions) := goodIn_app (goodIn_of _ (by decide +kernel)) ggX6_rule_X1_directions
set_option maxRecDepth 20000 in
theorem ggX6_rule_X4_setFromTape : GoodIn wsX6_rule wsX4_setFromTape := goodIn_r _ [22, 23, 24, 25, 26, 27, 21, 28, 48, 49, 50] (by decide +kernel) (by decide +kernel)
set_option maxRecDepth 20000 in
theorem gX6_rule_X4_setFromTape : GoodIn wsX6_rule (wsV RX6 93 RX4 yX4_setFromTape wsX4_setFromTape) := goodIn_app (goodIn_of _ (by decide +kernel)) ggX6_rule_X4_setFromTape
set_option maxRecDepth 20000 in
theorem ggX6_rule_X2_spoil : GoodIn wsX6_rule wsX2_spoil := goodIn_r _ [33, 34, 51, 52, 53, 54, 55, 56, 57] (by decide +kernel) (by decide +kernel)
set_option maxRecDepth 20000 in
theorem gX6_rule_X2_spoil : GoodIn wsX6_rule (wsV RX6 96 RX2 yX2_spoil wsX2_spoil) := goodIn_app (goodIn_of _ (by decide +kernel)) ggX6_rule_X2_spoil
theorem dX6_rule_0 : decode cX6_rule 0 = .ok (.iload_n 1, 1) := by decide +kernel
theorem dX6_rule_1 : decode cX6_rule 1 = .ok (.invokestatic 87, 3) := by decide +kernel
theorem dX6_rule_4 : decode cX6_rule 4 = .ok (.ifCond .ne 5, 3) := by decide +kernel
theorem dX6_rule_7 : decode cX6_rule 7 = .ok (.iconst (-1), 1) := by decide +kernel
theorem dX6_rule_8 : decode cX6_rule 8 = .ok (.ireturn, 1) := by decide +kernel
theorem dX6_rule_9 : decode cX6_rule 9 = .ok (.aload_n 0, 1) := by decide +kernel
theorem dX6_rule_10 : decode cX6_rule 10 = .ok (.getfield 19, 3) := by decide +kernel
theorem dX6_rule_13 : decode cX6_rule 13 = .ok (.iload_n 1, 1) := by decide +kernel
theorem dX6_rule_14 : decode cX6_rule 14 = .ok (.aload_n 0, 1) := by decide +kernel
theorem dX6_rule_15 : decode cX6_rule 15 = .ok (.getfield 12, 3) := by decide +kernel
theorem dX6_rule_18 : decode cX6_rule 18 = .ok (.getfield 90, 3) := by decide +kernel
theorem dX6_rule_21 : decode cX6_rule 21 = .ok (.aload_n 0, 1) := by decide +kernel
theorem dX6_rule_22 : decode cX6_rule 22 = .ok (.getfield 12, 3) := by decide +kernel
theorem dX6_rule_25 : decode cX6_rule 25 = .ok (.invokevirtual 55, 3) := by decide +kernel
theorem dX6_rule_28 : decode cX6_rule 28 = .ok (.invokevirtual 93, 3) := by decide +kernel
theorem dX6_rule_31 : decode cX6_rule 31 = .ok (.ifCond .ne 6, 3) := by decide +kernel
theorem dX6_rule_34 : decode cX6_rule 34 = .ok (.bipush (-2), 2) := by decide +kernel
theorem dX6_rule_36 : decode cX6_rule 36 = .ok (.ireturn, 1) := by decide +kernel
theorem dX6_rule_37 : decode cX6_rule 37 = .ok (.aload_n 0, 1) := by decide +kernel
theorem dX6_rule_38 : decode cX6_rule 38 = .ok (.getfield 44, 3) := by decide +kernel
theorem dX6_rule_41 : decode cX6_rule 41 = .ok (.invokevirtual 96, 3) := by decide +kernel
theorem dX6_rule_44 : decode cX6_rule 44 = .ok (.aload_n 0, 1) := by decide +kernel
theorem dX6_rule_45 : decode cX6_rule 45 = .ok (.getfield 12, 3) := by decide +kernel
theorem dX6_rule_48 : decode cX6_rule 48 = .ok (.getfield 90, 3) := by decide +kernel
theorem dX6_rule_51 : decode cX6_rule 51 = .ok (.ireturn, 1) := by decide +kernel
set_option maxRecDepth 20000 in
theorem ggX6_ant_X6_isOn : GoodIn wsX6_ant wsX6_isOn := goodIn_r _ [8] (by decide +kernel) (by decide +kernel)
set_option maxRecDepth 20000 in
theorem gX6_ant_X6_isOn : GoodIn wsX6_ant (va_wsS RX6 99 yX6_isOn wsX6_isOn) := goodIn_app (goodIn_of _ (by decide +kernel)) ggX6_ant_X6_isOn
set_option maxRecDepth 20000 in
theorem ggX6_ant_X1_directions : GoodIn wsX6_ant wsX1_directions := goodIn_r _ [13, 14, 45, 46, 47, 48] (by decide +kernel) (by decide +kernel)
set_option maxRecDepth 20000 in
theorem gX6_ant_X1_directions : GoodIn wsX6_ant (wsV RX6 55 RX1 yX1_directions wsX1_directions) := goodIn_app (goodIn_of _ (by decide +kernel)) ggX6_ant_X1_directions
set_option maxRecDepth 20000 in
theorem ggX6_ant_X6_isWithin : GoodIn wsX6_ant wsX6_isWithin := goodIn_r _ [17] (by decide +kernel) (by decide +kernel)
set_option maxRecDepth 20000 in
theorem gX6_ant_X6_isWithin : GoodIn wsX6_ant (va_wsS RX6 63 yX6_isWithin wsX6_isWithin) := goodIn_app (goodIn_of _ (by decide +kernel)) ggX6_ant_X6_isWithin
set_option maxRecDepth 20000 in
theorem ggX6_ant_X6_isRule : GoodIn wsX6_ant wsX6_isRule := goodIn_r _ [20, 15, 16, 7, 17] (by decide +kernel) (by decide +kernel)
set_option maxRecDepth 20000 in
theorem gX6_ant_X6_isRule : GoodIn wsX6_ant (va_wsS RX6 87 yX6_isRule wsX6_isRule) := goodIn_app (goodIn_of _ (by decide +kernel)) ggX6_ant_X6_isRule
set_option maxRecDepth 20000 in
theorem ggX6_ant_X0_put : GoodIn wsX6_ant wsX0_put := goodIn_r _ [25, 26, 27, 28, 29, 49, 50, 51, 52] (by decide +kernel) (by decide +kernel)
set_option maxRecDepth 20000 in
theorem gX6_ant_X0_put : GoodIn wsX6_ant (wsV RX6 103 RX0 yX0_put wsX0_put) := goodIn_app (goodIn_of _ (by decide +kernel)) ggX6_ant_X0_put
set_option maxRecDepth 20000 in
theorem ggX6_ant_X2_spoil : GoodIn wsX6_ant wsX2_spoil := goodIn_r _ [34, 35, 53, 54, 55, 56, 57, 58, 59] (by decide +kernel) (by decide +kernel)
set_option maxRecDepth 20000 in
theorem gX6_ant_X2_spoil : GoodIn wsX6_ant (wsV RX6 96 RX2 yX2_spoil wsX2_spoil) := goodIn_app (goodIn_of _ (by decide +kernel)) ggX6_ant_X2_spoil
theorem dX6_ant_0 : decode cX6_ant 0 = .ok (.iload_n 1, 1) := by decide +kernel
theorem dX6_ant_1 : decode cX6_ant 1 = .ok (.iload_n 2, 1) := by decide +kernel
theorem dX6_ant_2 : decode cX6_ant 2 = .ok (.invokestatic 99, 3) := by decide +kernel
theorem dX6_ant_5 : decode cX6_ant 5 = .ok (.ifCond .eq 28, 3) := by decide +kernel
theorem dX6_ant_8 : decode cX6_ant 8 = .ok (.iload_n 3, 1) := by decide +kernel
theorem dX6_ant_9 : decode cX6_ant 9 = .ok (.iconst 0, 1) := by decide +kernel
theorem dX6_ant_10 : decode cX6_ant 10 = .ok (.aload_n 0, 1) := by decide +kernel
theorem dX6_ant_11 : decode cX6_ant 11 = .ok (.getfield 12, 3) := by decide +kernel
theorem dX6_ant_14 : decode cX6_ant 14 = .ok (.invokevirtual 55, 3) := by decide +kernel
theorem dX6_ant_17 : decode cX6_ant 17 = .ok (.iconst 1, 1) := by decide +kernel
theorem dX6_ant_18 : decode cX6_ant 18 = .ok (.isub, 1) := by decide +kernel
theorem dX6_ant_19 : decode cX6_ant 19 = .ok (.invokestatic 63, 3) := by decide +kernel
theorem dX6_ant_22 : decode cX6_ant 22 = .ok (.ifCond .eq 11, 3) := by decide +kernel
theorem dX6_ant_25 : decode cX6_ant 25 = .ok (.iload 4, 2) := by decide +kernel
theorem dX6_ant_27 : decode cX6_ant 27 = .ok (.invokestatic 87, 3) := by decide +kernel
theorem dX6_ant_30 : decode cX6_ant 30 = .ok (.ifCond .ne 5, 3) := by decide +kernel
theorem dX6_ant_33 : decode cX6_ant 33 = .ok (.iconst (-1), 1) := by decide +kernel
theorem dX6_ant_34 : decode cX6_ant 34 = .ok (.ireturn, 1) := by decide +kernel
theorem dX6_ant_35 : decode cX6_ant 35 = .ok (.aload_n 0, 1) := by decide +kernel
theorem dX6_ant_36 : decode cX6_ant 36 = .ok (.getfield 67, 3) := by decide +kernel
theorem dX6_ant_39 : decode cX6_ant 39 = .ok (.bipush 6, 2) := by decide +kernel
theorem dX6_ant_41 : decode cX6_ant 41 = .ok (.if_icmp .lt 6, 3) := by decide +kernel
theorem dX6_ant_44 : decode cX6_ant 44 = .ok (.bipush (-3), 2) := by decide +kernel
theorem dX6_ant_46 : decode cX6_ant 46 = .ok (.ireturn, 1) := by decide +kernel
theorem dX6_ant_47 : decode cX6_ant 47 = .ok (.aload_n 0, 1) := by decide +kernel
theorem dX6_ant_48 : decode cX6_ant 48 = .ok (.getfield 25, 3) := by decide +kernel
theorem dX6_ant_51 : decode cX6_ant 51 = .ok (.aload_n 0, 1) := by decide +kernel
theorem dX6_ant_52 : decode cX6_ant 52 = .ok (.getfield 67, 3) := by decide +kernel
theorem dX6_ant_55 : decode cX6_ant 55 = .ok (.aaload, 1) := by decide +kernel
theorem dX6_ant_56 : decode cX6_ant 56 = .ok (.iload_n 1, 1) := by decide +kernel
theorem dX6_ant_57 : decode cX6_ant 57 = .ok (.iload_n 2, 1) := by decide +kernel
theorem dX6_ant_58 : decode cX6_ant 58 = .ok (.iload_n 3, 1) := by decide +kernel
theorem dX6_ant_59 : decode cX6_ant 59 = .ok (.iload 4, 2) := by decide +kernel
theorem dX6_ant_61 : decode cX6_ant 61 = .ok (.invokevirtual 103, 3) := by decide +kernel
theorem dX6_ant_64 : decode cX6_ant 64 = .ok (.aload_n 0, 1) := by decide +kernel
theorem dX6_ant_65 : decode cX6_ant 65 = .ok (.dup, 1) := by decide +kernel
theorem dX6_ant_66 : decode cX6_ant 66 = .ok (.getfield 67, 3) := by decide +kernel
theorem dX6_ant_69 : decode cX6_ant 69 = .ok (.iconst 1, 1) := by decide +kernel
theorem dX6_ant_70 : decode cX6_ant 70 = .ok (.iadd, 1) := by decide +kernel
theorem dX6_ant_71 : decode cX6_ant 71 = .ok (.putfield 67, 3) := by decide +kernel
theorem dX6_ant_74 : decode cX6_ant 74 = .ok (.aload_n 0, 1) := by decide +kernel
theorem dX6_ant_75 : decode cX6_ant 75 = .ok (.getfield 44, 3) := by decide +kernel
theorem dX6_ant_78 : decode cX6_ant 78 = .ok (.invokevirtual 96, 3) := by decide +kernel
theorem dX6_ant_81 : decode cX6_ant 81 = .ok (.aload_n 0, 1) := by decide +kernel
theorem dX6_ant_82 : decode cX6_ant 82 = .ok (.getfield 67, 3) := by decide +kernel
theorem dX6_ant_85 : decode cX6_ant 85 = .ok (.iconst 1, 1) := by decide +kernel
theorem dX6_ant_86 : decode cX6_ant 86 = .ok (.isub, 1) := by decide +kernel
theorem dX6_ant_87 : decode cX6_ant 87 = .ok (.ireturn, 1) := by decide +kernel
set_option maxRecDepth 20000 in
theorem ggX6_less_X2_spoil : GoodIn wsX6_less wsX2_spoil := goodIn_r _ [7, 8, 18, 19, 20, 21, 22, 23, 24] (by decide +kernel) (by decide +kernel)
set_option maxRecDepth 20000 in
theorem gX6_less_X2_spoil : GoodIn wsX6_less (wsV RX6 96 RX2 yX2_spoil wsX2_spoil) := goodIn_app (goodIn_of _ (by decide +kernel)) ggX6_less_X2_spoil
theorem dX6_less_0 : decode cX6_less 0 = .ok (.aload_n 0, 1) := by decide +kernel
theorem dX6_less_1 : decode cX6_less 1 = .ok (.getfield 67, 3) := by decide +kernel
theorem dX6_less_4 : decode cX6_less 4 = .ok (.ifCond .gt 6, 3) := by decide +kernel
theorem dX6_less_7 : decode cX6_less 7 = .ok (.bipush (-2), 2) := by decide +kernel
theorem dX6_less_9 : decode cX6_less 9 = .ok (.ireturn, 1) := by decide +kernel
theorem dX6_less_10 : decode cX6_less 10 = .ok (.aload_n 0, 1) := by decide +kernel
theorem dX6_less_11 : decode cX6_less 11 = .ok (.dup, 1) := by decide +kernel
theorem dX6_less_12 : decode cX6_less 12 = .ok (.getfield 67, 3) := by decide +kernel
theorem dX6_less_15 : decode cX6_less 15 = .ok (.iconst 1, 1) := by decide +kernel
theorem dX6_less_16 : decode cX6_less 16 = .ok (.isub, 1) := by decide +kernel
theorem dX6_less_17 : decode cX6_less 17 = .ok (.putfield 67, 3) := by decide +kernel
theorem dX6_less_20 : decode cX6_less 20 = .ok (.aload_n 0, 1) := by decide +kernel
theorem dX6_less_21 : decode cX6_less 21 = .ok (.getfield 44, 3) := by decide +kernel
theorem dX6_less_24 : decode cX6_less 24 = .ok (.invokevirtual 96, 3) := by decide +kernel
theorem dX6_less_27 : decode cX6_less 27 = .ok (.aload_n 0, 1) := by decide +kernel
theorem dX6_less_28 : decode cX6_less 28 = .ok (.getfield 67, 3) := by decide +kernel
theorem dX6_less_31 : decode cX6_less 31 = .ok (.ireturn, 1) := by decide +kernel
set_option maxRecDepth 20000 in
theorem ggX6_paint_X6_placeOf : GoodIn wsX6_paint wsX6_placeOf := goodIn_r _ [8, 9, 10, 7, 11] (by decide +kernel) (by decide +kernel)
set_option maxRecDepth 20000 in
theorem gX6_paint_X6_placeOf : GoodIn wsX6_paint (va_wsS RX6 107 yX6_placeOf wsX6_placeOf) := goodIn_app (goodIn_of _ (by decide +kernel)) ggX6_paint_X6_placeOf
set_option maxRecDepth 20000 in
theorem ggX6_paint_X6_isWithin : GoodIn wsX6_paint wsX6_isWithin := goodIn_r _ [14] (by decide +kernel) (by decide +kernel)
set_option maxRecDepth 20000 in
theorem gX6_paint_X6_isWithin : GoodIn wsX6_paint (va_wsS RX6 63 yX6_isWithin wsX6_isWithin) := goodIn_app (goodIn_of _ (by decide +kernel)) ggX6_paint_X6_isWithin
set_option maxRecDepth 20000 in
theorem ggX6_paint_X2_spoil : GoodIn wsX6_paint wsX2_spoil := goodIn_r _ [19, 20, 34, 35, 36, 37, 38, 39, 40] (by decide +kernel) (by decide +kernel)
set_option maxRecDepth 20000 in
theorem gX6_paint_X2_spoil : GoodIn wsX6_paint (wsV RX6 96 RX2 yX2_spoil wsX2_spoil) := goodIn_app (goodIn_of _ (by decide +kernel)) ggX6_paint_X2_spoil
theorem dX6_paint_0 : decode cX6_paint 0 = .ok (.iload_n 1, 1) := by decide +kernel
theorem dX6_paint_1 : decode cX6_paint 1 = .ok (.iload_n 2, 1) := by decide +kernel
theorem dX6_paint_2 : decode cX6_paint 2 = .ok (.invokestatic 107, 3) := by decide +kernel
theorem dX6_paint_5 : decode cX6_paint 5 = .ok (.istore 4, 2) := by decide +kernel
theorem dX6_paint_7 : decode cX6_paint 7 = .ok (.iload 4, 2) := by decide +kernel
theorem dX6_paint_9 : decode cX6_paint 9 = .ok (.ifCond .lt 20, 3) := by decide +kernel
theorem dX6_paint_12 : decode cX6_paint 12 = .ok (.iload_n 3, 1) := by decide +kernel
theorem dX6_paint_13 : decode cX6_paint 13 = .ok (.iconst 0, 1) := by decide +kernel
theorem dX6_paint_14 : decode cX6_paint 14 = .ok (.aload_n 0, 1) := by decide +kernel
theorem dX6_paint_15 : decode cX6_paint 15 = .ok (.getfield 12, 3) := by decide +kernel
theorem dX6_paint_18 : decode cX6_paint 18 = .ok (.getfield 90, 3) := by decide +kernel
theorem dX6_paint_21 : decode cX6_paint 21 = .ok (.iconst 1, 1) := by decide +kernel
theorem dX6_paint_22 : decode cX6_paint 22 = .ok (.isub, 1) := by decide +kernel
theorem dX6_paint_23 : decode cX6_paint 23 = .ok (.invokestatic 63, 3) := by decide +kernel
theorem dX6_paint_26 : decode cX6_paint 26 = .ok (.ifCond .ne 5, 3) := by decide +kernel
theorem dX6_paint_29 : decode cX6_paint 29 = .ok (.iconst (-1), 1) := by decide +kernel
theorem dX6_paint_30 : decode cX6_paint 30 = .ok (.ireturn, 1) := by decide +kernel
theorem dX6_paint_31 : decode cX6_paint 31 = .ok (.aload_n 0, 1) := by decide +kernel
theorem dX6_paint_32 : decode cX6_paint 32 = .ok (.getfield 12, 3) := by decide +kernel
theorem dX6_paint_35 : decode cX6_paint 35 = .ok (.getfield 111, 3) := by decide +kernel
theorem dX6_paint_38 : decode cX6_paint 38 = .ok (.iload 4, 2) := by decide +kernel
theorem dX6_paint_40 : decode cX6_paint 40 = .ok (.iaload, 1) := by decide +kernel
theorem dX6_paint_41 : decode cX6_paint 41 = .ok (.istore 5, 2) := by decide +kernel
theorem dX6_paint_43 : decode cX6_paint 43 = .ok (.aload_n 0, 1) := by decide +kernel
theorem dX6_paint_44 : decode cX6_paint 44 = .ok (.getfield 12, 3) := by decide +kernel
theorem dX6_paint_47 : decode cX6_paint 47 = .ok (.getfield 111, 3) := by decide +kernel
theorem dX6_paint_50 : decode cX6_paint 50 = .ok (.iload 4, 2) := by decide +kernel
theorem dX6_paint_52 : decode cX6_paint 52 = .ok (.iload_n 3, 1) := by decide +kernel
theorem dX6_paint_53 : decode cX6_paint 53 = .ok (.iastore, 1) := by decide +kernel
theorem dX6_paint_54 : decode cX6_paint 54 = .ok (.aload_n 0, 1) := by decide +kernel
theorem dX6_paint_55 : decode cX6_paint 55 = .ok (.getfield 44, 3) := by decide +kernel
theorem dX6_paint_58 : decode cX6_paint 58 = .ok (.invokevirtual 96, 3) := by decide +kernel
theorem dX6_paint_61 : decode cX6_paint 61 = .ok (.iload 5, 2) := by decide +kernel
theorem dX6_paint_63 : decode cX6_paint 63 = .ok (.ireturn, 1) := by decide +kernel
set_option maxRecDepth 20000 in
theorem ggX6_colour_X6_placeOf : GoodIn wsX6_colour wsX6_placeOf := goodIn_r _ [6, 7, 8, 5, 9] (by decide +kernel) (by decide +kernel)
set_option maxRecDepth 20000 in
theorem gX6_colour_X6_placeOf : GoodIn wsX6_colour (va_wsS RX6 107 yX6_placeOf wsX6_placeOf) := goodIn_app (goodIn_of _ (by decide +kernel)) ggX6_colour_X6_placeOf
theorem dX6_colour_0 : decode cX6_colour 0 = .ok (.iload_n 1, 1) := by decide +kernel
theorem dX6_colour_1 : decode cX6_colour 1 = .ok (.iload_n 2, 1) := by decide +kernel
theorem dX6_colour_2 : decode cX6_colour 2 = .ok (.invokestatic 107, 3) := by decide +kernel
theorem dX6_colour_5 : decode cX6_colour 5 = .ok (.istore_n 3, 1) := by decide +kernel
theorem dX6_colour_6 : decode cX6_colour 6 = .ok (.iload_n 3, 1) := by decide +kernel
theorem dX6_colour_7 : decode cX6_colour 7 = .ok (.ifCond .ge 7, 3) := by decide +kernel
theorem dX6_colour_10 : decode cX6_colour 10 = .ok (.iconst (-1), 1) := by decide +kernel
theorem dX6_colour_11 : decode cX6_colour 11 = .ok (.goto 12, 3) := by decide +kernel
theorem dX6_colour_14 : decode cX6_colour 14 = .ok (.aload_n 0, 1) := by decide +kernel
theorem dX6_colour_15 : decode cX6_colour 15 = .ok (.getfield 12, 3) := by decide +kernel
theorem dX6_colour_18 : decode cX6_colour 18 = .ok (.getfield 111, 3) := by decide +kernel
theorem dX6_colour_21 : decode cX6_colour 21 = .ok (.iload_n 3, 1) := by decide +kernel
theorem dX6_colour_22 : decode cX6_colour 22 = .ok (.iaload, 1) := by decide +kernel
theorem dX6_colour_23 : decode cX6_colour 23 = .ok (.ireturn, 1) := by decide +kernel
set_option maxRecDepth 20000 in
theorem ggX6_told_X6_isWithin : GoodIn wsX6_told wsX6_isWithin := goodIn_r _ [10] (by decide +kernel) (by decide +kernel)
set_option maxRecDepth 20000 in
theorem gX6_told_X6_isWithin : GoodIn wsX6_told (va_wsS RX6 63 yX6_isWithin wsX6_isWithin) := goodIn_app (goodIn_of _ (by decide +kernel)) ggX6_told_X6_isWithin
theorem dX6_told_0 : decode cX6_told 0 = .ok (.iload_n 1, 1) := by decide +kernel
theorem dX6_told_1 : decode cX6_told 1 = .ok (.iconst 0, 1) := by decide +kernel
theorem dX6_told_2 : decode cX6_told 2 = .ok (.aload_n 0, 1) := by decide +kernel
theorem dX6_told_3 : decode cX6_told 3 = .ok (.getfield 67, 3) := by decide +kernel
theorem dX6_told_6 : decode cX6_told 6 = .ok (.iconst 1, 1) := by decide +kernel
theorem dX6_told_7 : decode cX6_told 7 = .ok (.isub, 1) := by decide +kernel
theorem dX6_told_8 : decode cX6_told 8 = .ok (.invokestatic 63, 3) := by decide +kernel
theorem dX6_told_11 : decode cX6_told 11 = .ok (.ifCond .ne 7, 3) := by decide +kernel
theorem dX6_told_14 : decode cX6_told 14 = .ok (.sipush (-1001), 3) := by decide +kernel
theorem dX6_told_17 : decode cX6_told 17 = .ok (.ireturn, 1) := by decide +kernel
theorem dX6_told_18 : decode cX6_told 18 = .ok (.iload_n 2, 1) := by decide +kernel
theorem dX6_told_19 : decode cX6_told 19 = .ok (.tableswitch 69 0 3 #[29, 39, 49, 59], 29) := by decide +kernel
theorem dX6_told_48 : decode cX6_told 48 = .ok (.aload_n 0, 1) := by decide +kernel
theorem dX6_told_49 : decode cX6_told 49 = .ok (.getfield 25, 3) := by decide +kernel
theorem dX6_told_52 : decode cX6_told 52 = .ok (.iload_n 1, 1) := by decide +kernel
theorem dX6_told_53 : decode cX6_told 53 = .ok (.aaload, 1) := by decide +kernel
theorem dX6_told_54 : decode cX6_told 54 = .ok (.getfield 114, 3) := by decide +kernel
theorem dX6_told_57 : decode cX6_told 57 = .ok (.ireturn, 1) := by decide +kernel
theorem dX6_told_58 : decode cX6_told 58 = .ok (.aload_n 0, 1) := by decide +kernel
theorem dX6_told_59 : decode cX6_told 59 = .ok (.getfield 25, 3) := by decide +kernel
theorem dX6_told_62 : decode cX6_told 62 = .ok (.iload_n 1, 1) := by decide +kernel
theorem dX6_told_63 : decode cX6_told 63 = .ok (.aaload, 1) := by decide +kernel
theorem dX6_told_64 : decode cX6_told 64 = .ok (.getfield 117, 3) := by decide +kernel
theorem dX6_told_67 : decode cX6_told 67 = .ok (.ireturn, 1) := by decide +kernel
theorem dX6_told_68 : decode cX6_told 68 = .ok (.aload_n 0, 1) := by decide +kernel
theorem dX6_told_69 : decode cX6_told 69 = .ok (.getfield 25, 3) := by decide +kernel
theorem dX6_told_72 : decode cX6_told 72 = .ok (.iload_n 1, 1) := by decide +kernel
theorem dX6_told_73 : decode cX6_told 73 = .ok (.aaload, 1) := by decide +kernel
theorem dX6_told_74 : decode cX6_told 74 = .ok (.getfield 120, 3) := by decide +kernel
theorem dX6_told_77 : decode cX6_told 77 = .ok (.ireturn, 1) := by decide +kernel
theorem dX6_told_78 : decode cX6_told 78 = .ok (.aload_n 0, 1) := by decide +kernel
theorem dX6_told_79 : decode cX6_told 79 = .ok (.getfield 25, 3) := by decide +kernel
theorem dX6_told_82 : decode cX6_told 82 = .ok (.iload_n 1, 1) := by decide +kernel
theorem dX6_told_83 : decode cX6_told 83 = .ok (.aaload, 1) := by decide +kernel
theorem dX6_told_84 : decode cX6_told 84 = .ok (.getfield 123, 3) := by decide +kernel
theorem dX6_told_87 : decode cX6_told 87 = .ok (.ireturn, 1) := by decide +kernel
theorem dX6_told_88 : decode cX6_told 88 = .ok (.sipush (-1001), 3) := by decide +kernel
theorem dX6_told_91 : decode cX6_told 91 = .ok (.ireturn, 1) := by decide +kernel
set_option maxRecDepth 20000 in
theorem ggX6_run_X6_isWithin : GoodIn wsX6_run wsX6_isWithin := goodIn_r _ [4] (by decide +kernel) (by decide +kernel)
set_option maxRecDepth 20000 in
theorem gX6_run_X6_isWithin : GoodIn wsX6_run (va_wsS RX6 63 yX6_isWithin wsX6_isWithin) := goodIn_app (goodIn_of _ (by decide +kernel)) ggX6_run_X6_isWithin
set_option maxRecDepth 20000 in
theorem ggX6_run_X6_stepAhead : GoodIn wsX6_run wsX6_stepAhead := goodIn_r _ [8, 9, 10, 11, 12, 13, 14, 15, 16, 17, 3, 18, 19, 20, 21, 22, 23, 24, 25, 26, 27, 28, 29, 30, 31, 32, 33, 34, 35, 36, 37, 38, 39, 40, 41, 42, 43, 44, 45, 46, 47, 48, 49, 50, 51, 52, 53, 54, 55, 56, 57, 58, 59, 60, 61, 62, 63, 64, 65, 66, 67, 68, 69, 70, 71, 72, 73, 74, 75, 76, 77, 78, 79, 80, 81, 82, 83, 84, 85, 86, 87, 88, 89, 90, 91, 92, 93, 94, 95, 109, 110, 111, 112, 113, 114, 115, 116, 117, 118, 119, 120, 121, 122, 123, 124, 125, 126, 127, 128, 129, 130, 131, 132, 133, 134, 135, 136, 137, 138, 139, 140] (by decide +kernel) (by decide +kernel)
set_option maxRecDepth 20000 in
theorem gX6_run_X6_stepAhead : GoodIn wsX6_run (wsV RX6 126 RX6 yX6_stepAhead wsX6_stepAhead) := goodIn_app (goodIn_of _ (by decide +kernel)) ggX6_run_X6_stepAhead
set_option maxRecDepth 20000 in
theorem ggX6_run_X6_stepBack : GoodIn wsX6_run wsX6_stepBack := goodIn_r _ [99, 9, 11, 14, 15, 65, 66, 67, 3, 68, 12, 26, 28, 13, 27, 32, 29, 30, 31, 33, 44, 45, 46, 37, 47, 43, 48, 49, 50, 51, 16, 17, 18, 19, 20, 21, 34, 35, 36, 38, 39, 40, 41, 42, 52, 53, 54, 55, 56, 57, 58, 59, 60, 100, 101, 102, 103, 22, 23, 24, 25, 104, 105, 106, 72, 107, 108, 109, 110, 111, 112, 113, 114, 115, 116, 117, 118, 119, 120, 121, 122, 123, 124, 125, 126, 127, 128, 129, 130, 131, 132, 133, 134, 135] (by decide +kernel) (by decide +kernel)
set_option maxRecDepth 20000 in
theorem gX6_run_X6_stepBack : GoodIn wsX6_run (wsV RX6 130 RX6 yX6_stepBack wsX6_stepBack) := goodIn_app (goodIn_of _ (by decide +kernel)) ggX6_run_X6_stepBack
theorem dX6_run_0 : decode cX6_run 0 = .ok (.iload_n 1, 1) := by decide +kernel
theorem dX6_run_1 : decode cX6_run 1 = .ok (.ifCond .eq 16, 3) := by decide +kernel
theorem dX6_run_4 : decode cX6_run 4 = .ok (.iload_n 1, 1) := by decide +kernel
theorem dX6_run_5 : decode cX6_run 5 = .ok (.sipush (-2000), 3) := by decide +kernel
theorem dX6_run_8 : decode cX6_run 8 = .ok (.sipush 2000, 3) := by decide +kernel
theorem dX6_run_11 : decode cX6_run 11 = .ok (.invokestatic 63, 3) := by decide +kernel
theorem dX6_run_14 : decode cX6_run 14 = .ok (.ifCond .ne 5, 3) := by decide +kernel
theorem dX6_run_17 : decode cX6_run 17 = .ok (.iconst (-1), 1) := by decide +kernel
theorem dX6_run_18 : decode cX6_run 18 = .ok (.ireturn, 1) := by decide +kernel
theorem dX6_run_19 : decode cX6_run 19 = .ok (.iload_n 1, 1) := by decide +kernel
theorem dX6_run_20 : decode cX6_run 20 = .ok (.ifCond .le 7, 3) := by decide +kernel
theorem dX6_run_23 : decode cX6_run 23 = .ok (.iload_n 1, 1) := by decide +kernel
theorem dX6_run_24 : decode cX6_run 24 = .ok (.goto 5, 3) := by decide +kernel
theorem dX6_run_27 : decode cX6_run 27 = .ok (.iload_n 1, 1) := by decide +kernel
theorem dX6_run_28 : decode cX6_run 28 = .ok (.ineg, 1) := by decide +kernel
theorem dX6_run_29 : decode cX6_run 29 = .ok (.istore_n 2, 1) := by decide +kernel
theorem dX6_run_30 : decode cX6_run 30 = .ok (.iconst 0, 1) := by decide +kernel
theorem dX6_run_31 : decode cX6_run 31 = .ok (.istore_n 3, 1) := by decide +kernel
theorem dX6_run_32 : decode cX6_run 32 = .ok (.iload_n 3, 1) := by decide +kernel
theorem dX6_run_33 : decode cX6_run 33 = .ok (.iload_n 2, 1) := by decide +kernel
theorem dX6_run_34 : decode cX6_run 34 = .ok (.if_icmp .ge 30, 3) := by decide +kernel
theorem dX6_run_37 : decode cX6_run 37 = .ok (.iload_n 1, 1) := by decide +kernel
theorem dX6_run_38 : decode cX6_run 38 = .ok (.ifCond .le 13, 3) := by decide +kernel
theorem dX6_run_41 : decode cX6_run 41 = .ok (.aload_n 0, 1) := by decide +kernel
theorem dX6_run_42 : decode cX6_run 42 = .ok (.invokevirtual 126, 3) := by decide +kernel
theorem dX6_run_45 : decode cX6_run 45 = .ok (.ifCond .eq 19, 3) := by decide +kernel
theorem dX6_run_48 : decode cX6_run 48 = .ok (.goto 10, 3) := by decide +kernel
theorem dX6_run_51 : decode cX6_run 51 = .ok (.aload_n 0, 1) := by decide +kernel
theorem dX6_run_52 : decode cX6_run 52 = .ok (.invokevirtual 130, 3) := by decide +kernel
theorem dX6_run_55 : decode cX6_run 55 = .ok (.ifCond .eq 9, 3) := by decide +kernel
theorem dX6_run_58 : decode cX6_run 58 = .ok (.iinc 3 1, 3) := by decide +kernel
theorem dX6_run_61 : decode cX6_run 61 = .ok (.goto (-29), 3) := by decide +kernel
theorem dX6_run_64 : decode cX6_run 64 = .ok (.iload_n 3, 1) := by decide +kernel
theorem dX6_run_65 : decode cX6_run 65 = .ok (.ifCond .ne 8, 3) := by decide +kernel
theorem dX6_run_68 : decode cX6_run 68 = .ok (.bipush (-4), 2) := by decide +kernel
theorem dX6_run_70 : decode cX6_run 70 = .ok (.goto 4, 3) := by decide +kernel
theorem dX6_run_73 : decode cX6_run 73 = .ok (.iload_n 3, 1) := by decide +kernel
theorem dX6_run_74 : decode cX6_run 74 = .ok (.ireturn, 1) := by decide +kernel
theorem dX6_time_0 : decode cX6_time 0 = .ok (.aload_n 0, 1) := by decide +kernel
theorem dX6_time_1 : decode cX6_time 1 = .ok (.getfield 76, 3) := by decide +kernel
theorem dX6_time_4 : decode cX6_time 4 = .ok (.ireturn, 1) := by decide +kernel
set_option maxRecDepth 20000 in
theorem ggX6_meeting_X3_kept : GoodIn wsX6_meeting wsX3_kept := goodIn_r _ [11, 12, 26, 27, 28, 29, 30] (by decide +kernel) (by decide +kernel)
set_option maxRecDepth 20000 in
theorem gX6_meeting_X3_kept : GoodIn wsX6_meeting (wsV RX6 133 RX3 yX3_kept wsX3_kept) := goodIn_app (goodIn_of _ (by decide +kernel)) ggX6_meeting_X3_kept
set_option maxRecDepth 20000 in
theorem ggX6_meeting_X6_isWithin : GoodIn wsX6_meeting wsX6_isWithin := goodIn_r _ [16] (by decide +kernel) (by decide +kernel)
set_option maxRecDepth 20000 in
theorem gX6_meeting_X6_isWithin : GoodIn wsX6_meeting (va_wsS RX6 63 yX6_isWithin wsX6_isWithin) := goodIn_app (goodIn_of _ (by decide +kernel)) ggX6_meeting_X6_isWithin
theorem dX6_meeting_0 : decode cX6_meeting 0 = .ok (.iload_n 1, 1) := by decide +kernel
theorem dX6_meeting_1 : decode cX6_meeting 1 = .ok (.iconst 0, 1) := by decide +kernel
theorem dX6_meeting_2 : decode cX6_meeting 2 = .ok (.aload_n 0, 1) := by decide +kernel
theorem dX6_meeting_3 : decode cX6_meeting 3 = .ok (.getfield 37, 3) := by decide +kernel
theorem dX6_meeting_6 : decode cX6_meeting 6 = .ok (.invokevirtual 133, 3) := by decide +kernel
theorem dX6_meeting_9 : decode cX6_meeting 9 = .ok (.iconst 1, 1) := by decide +kernel
theorem dX6_meeting_10 : decode cX6_meeting 10 = .ok (.isub, 1) := by decide +kernel
theorem dX6_meeting_11 : decode cX6_meeting 11 = .ok (.invokestatic 63, 3) := by decide +kernel
theorem dX6_meeting_14 : decode cX6_meeting 14 = .ok (.ifCond .ne 6, 3) := by decide +kernel
theorem dX6_meeting_17 : decode cX6_meeting 17 = .ok (.ldc 136, 2) := by decide +kernel
theorem dX6_meeting_19 : decode cX6_meeting 19 = .ok (.ireturn, 1) := by decide +kernel
theorem dX6_meeting_20 : decode cX6_meeting 20 = .ok (.iload_n 2, 1) := by decide +kernel
theorem dX6_meeting_21 : decode cX6_meeting 21 = .ok (.tableswitch 71 0 3 #[31, 41, 51, 61], 31) := by decide +kernel
theorem dX6_meeting_52 : decode cX6_meeting 52 = .ok (.aload_n 0, 1) := by decide +kernel
theorem dX6_meeting_53 : decode cX6_meeting 53 = .ok (.getfield 37, 3) := by decide +kernel
theorem dX6_meeting_56 : decode cX6_meeting 56 = .ok (.getfield 137, 3) := by decide +kernel
theorem dX6_meeting_59 : decode cX6_meeting 59 = .ok (.iload_n 1, 1) := by decide +kernel
theorem dX6_meeting_60 : decode cX6_meeting 60 = .ok (.iaload, 1) := by decide +kernel
theorem dX6_meeting_61 : decode cX6_meeting 61 = .ok (.ireturn, 1) := by decide +kernel
theorem dX6_meeting_62 : decode cX6_meeting 62 = .ok (.aload_n 0, 1) := by decide +kernel
theorem dX6_meeting_63 : decode cX6_meeting 63 = .ok (.getfield 37, 3) := by decide +kernel
theorem dX6_meeting_66 : decode cX6_meeting 66 = .ok (.getfield 140, 3) := by decide +kernel
theorem dX6_meeting_69 : decode cX6_meeting 69 = .ok (.iload_n 1, 1) := by decide +kernel
theorem dX6_meeting_70 : decode cX6_meeting 70 = .ok (.iaload, 1) := by decide +kernel
theorem dX6_meeting_71 : decode cX6_meeting 71 = .ok (.ireturn, 1) := by decide +kernel
theorem dX6_meeting_72 : decode cX6_meeting 72 = .ok (.aload_n 0, 1) := by decide +kernel
theorem dX6_meeting_73 : decode cX6_meeting 73 = .ok (.getfield 37, 3) := by decide +kernel
theorem dX6_meeting_76 : decode cX6_meeting 76 = .ok (.getfield 143, 3) := by decide +kernel
theorem dX6_meeting_79 : decode cX6_meeting 79 = .ok (.iload_n 1, 1) := by decide +kernel
theorem dX6_meeting_80 : decode cX6_meeting 80 = .ok (.iaload, 1) := by decide +kernel
theorem dX6_meeting_81 : decode cX6_meeting 81 = .ok (.ireturn, 1) := by decide +kernel
theorem dX6_meeting_82 : decode cX6_meeting 82 = .ok (.aload_n 0, 1) := by decide +kernel
theorem dX6_meeting_83 : decode cX6_meeting 83 = .ok (.getfield 37, 3) := by decide +kernel
theorem dX6_meeting_86 : decode cX6_meeting 86 = .ok (.getfield 146, 3) := by decide +kernel
theorem dX6_meeting_89 : decode cX6_meeting 89 = .ok (.iload_n 1, 1) := by decide +kernel
theorem dX6_meeting_90 : decode cX6_meeting 90 = .ok (.iaload, 1) := by decide +kernel
theorem dX6_meeting_91 : decode cX6_meeting 91 = .ok (.ireturn, 1) := by decide +kernel
theorem dX6_meeting_92 : decode cX6_meeting 92 = .ok (.ldc 136, 2) := by decide +kernel
theorem dX6_meeting_94 : decode cX6_meeting 94 = .ok (.ireturn, 1) := by decide +kernel
set_option maxRecDepth 20000 in
theorem ggX6_visits_X6_placeOf : GoodIn wsX6_visits wsX6_placeOf := goodIn_r _ [7, 8, 9, 6, 10] (by decide +kernel) (by decide +kernel)
set_option maxRecDepth 20000 in
theorem gX6_visits_X6_placeOf : GoodIn wsX6_visits (va_wsS RX6 107 yX6_placeOf wsX6_placeOf) := goodIn_app (goodIn_of _ (by decide +kernel)) ggX6_visits_X6_placeOf
theorem dX6_visits_0 : decode cX6_visits 0 = .ok (.iload_n 1, 1) := by decide +kernel
theorem dX6_visits_1 : decode cX6_visits 1 = .ok (.iload_n 2, 1) := by decide +kernel
theorem dX6_visits_2 : decode cX6_visits 2 = .ok (.invokestatic 107, 3) := by decide +kernel
theorem dX6_visits_5 : decode cX6_visits 5 = .ok (.istore_n 3, 1) := by decide +kernel
theorem dX6_visits_6 : decode cX6_visits 6 = .ok (.iload_n 3, 1) := by decide +kernel
theorem dX6_visits_7 : decode cX6_visits 7 = .ok (.ifCond .ge 8, 3) := by decide +kernel
theorem dX6_visits_10 : decode cX6_visits 10 = .ok (.ldc 149, 2) := by decide +kernel
theorem dX6_visits_12 : decode cX6_visits 12 = .ok (.goto 12, 3) := by decide +kernel
theorem dX6_visits_15 : decode cX6_visits 15 = .ok (.aload_n 0, 1) := by decide +kernel
theorem dX6_visits_16 : decode cX6_visits 16 = .ok (.getfield 12, 3) := by decide +kernel
theorem dX6_visits_19 : decode cX6_visits 19 = .ok (.getfield 150, 3) := by decide +kernel
theorem dX6_visits_22 : decode cX6_visits 22 = .ok (.iload_n 3, 1) := by decide +kernel
theorem dX6_visits_23 : decode cX6_visits 23 = .ok (.iaload, 1) := by decide +kernel
theorem dX6_visits_24 : decode cX6_visits 24 = .ok (.ireturn, 1) := by decide +kernel
set_option maxRecDepth 20000 in
theorem ggX6_count_X6_howMany : GoodIn wsX6_count wsX6_howMany := goodIn_r _ [13] (by decide +kernel) (by decide +kernel)
set_option maxRecDepth 20000 in
theorem gX6_count_X6_howMany : GoodIn wsX6_count (va_wsS RX6 154 yX6_howMany wsX6_howMany) := goodIn_app (goodIn_of _ (by decide +kernel)) ggX6_count_X6_howMany
set_option maxRecDepth 20000 in
theorem ggX6_count_X6_isWithin : GoodIn wsX6_count wsX6_isWithin := goodIn_r _ [16] (by decide +kernel) (by decide +kernel)
set_option maxRecDepth 20000 in
theorem gX6_count_X6_isWithin : GoodIn wsX6_count (va_wsS RX6 63 yX6_isWithin wsX6_isWithin) := goodIn_app (goodIn_of _ (by decide +kernel)) ggX6_count_X6_isWithin
theorem dX6_count_0 : decode cX6_count 0 = .ok (.iload_n 1, 1) := by decide +kernel
theorem dX6_count_1 : decode cX6_count 1 = .ok (.tableswitch 98 0 5 #[39, 44, 59, 67, 82, 90], 39) := by decide +kernel
theorem dX6_count_40 : decode cX6_count 40 = .ok (.aload_n 0, 1) := by decide +kernel
theorem dX6_count_41 : decode cX6_count 41 = .ok (.getfield 67, 3) := by decide +kernel
theorem dX6_count_44 : decode cX6_count 44 = .ok (.ireturn, 1) := by decide +kernel
theorem dX6_count_45 : decode cX6_count 45 = .ok (.ldc 153, 2) := by decide +kernel
theorem dX6_count_47 : decode cX6_count 47 = .ok (.aload_n 0, 1) := by decide +kernel
theorem dX6_count_48 : decode cX6_count 48 = .ok (.getfield 12, 3) := by decide +kernel
theorem dX6_count_51 : decode cX6_count 51 = .ok (.getfield 111, 3) := by decide +kernel
theorem dX6_count_54 : decode cX6_count 54 = .ok (.iconst 0, 1) := by decide +kernel
theorem dX6_count_55 : decode cX6_count 55 = .ok (.invokestatic 154, 3) := by decide +kernel
theorem dX6_count_58 : decode cX6_count 58 = .ok (.isub, 1) := by decide +kernel
theorem dX6_count_59 : decode cX6_count 59 = .ok (.ireturn, 1) := by decide +kernel
theorem dX6_count_60 : decode cX6_count 60 = .ok (.aload_n 0, 1) := by decide +kernel
theorem dX6_count_61 : decode cX6_count 61 = .ok (.getfield 37, 3) := by decide +kernel
theorem dX6_count_64 : decode cX6_count 64 = .ok (.getfield 158, 3) := by decide +kernel
theorem dX6_count_67 : decode cX6_count 67 = .ok (.ireturn, 1) := by decide +kernel
theorem dX6_count_68 : decode cX6_count 68 = .ok (.ldc 153, 2) := by decide +kernel
theorem dX6_count_70 : decode cX6_count 70 = .ok (.aload_n 0, 1) := by decide +kernel
theorem dX6_count_71 : decode cX6_count 71 = .ok (.getfield 12, 3) := by decide +kernel
theorem dX6_count_74 : decode cX6_count 74 = .ok (.getfield 150, 3) := by decide +kernel
theorem dX6_count_77 : decode cX6_count 77 = .ok (.iconst 0, 1) := by decide +kernel
theorem dX6_count_78 : decode cX6_count 78 = .ok (.invokestatic 154, 3) := by decide +kernel
theorem dX6_count_81 : decode cX6_count 81 = .ok (.isub, 1) := by decide +kernel
theorem dX6_count_82 : decode cX6_count 82 = .ok (.ireturn, 1) := by decide +kernel
theorem dX6_count_83 : decode cX6_count 83 = .ok (.aload_n 0, 1) := by decide +kernel
theorem dX6_count_84 : decode cX6_count 84 = .ok (.getfield 12, 3) := by decide +kernel
theorem dX6_count_87 : decode cX6_count 87 = .ok (.getfield 90, 3) := by decide +kernel
theorem dX6_count_90 : decode cX6_count 90 = .ok (.ireturn, 1) := by decide +kernel
theorem dX6_count_91 : decode cX6_count 91 = .ok (.aload_n 0, 1) := by decide +kernel
theorem dX6_count_92 : decode cX6_count 92 = .ok (.getfield 12, 3) := by decide +kernel
theorem dX6_count_95 : decode cX6_count 95 = .ok (.getfield 161, 3) := by decide +kernel
theorem dX6_count_98 : decode cX6_count 98 = .ok (.ireturn, 1) := by decide +kernel
theorem dX6_count_99 : decode cX6_count 99 = .ok (.iload_n 1, 1) := by decide +kernel
theorem dX6_count_100 : decode cX6_count 100 = .ok (.bipush 10, 2) := by decide +kernel
theorem dX6_count_102 : decode cX6_count 102 = .ok (.bipush 10, 2) := by decide +kernel
theorem dX6_count_104 : decode cX6_count 104 = .ok (.aload_n 0, 1) := by decide +kernel
theorem dX6_count_105 : decode cX6_count 105 = .ok (.getfield 12, 3) := by decide +kernel
theorem dX6_count_108 : decode cX6_count 108 = .ok (.getfield 90, 3) := by decide +kernel
theorem dX6_count_111 : decode cX6_count 111 = .ok (.iadd, 1) := by decide +kernel
theorem dX6_count_112 : decode cX6_count 112 = .ok (.iconst 1, 1) := by decide +kernel
theorem dX6_count_113 : decode cX6_count 113 = .ok (.isub, 1) := by decide +kernel
theorem dX6_count_114 : decode cX6_count 114 = .ok (.invokestatic 63, 3) := by decide +kernel
theorem dX6_count_117 : decode cX6_count 117 = .ok (.ifCond .ne 5, 3) := by decide +kernel
theorem dX6_count_120 : decode cX6_count 120 = .ok (.iconst (-1), 1) := by decide +kernel
theorem dX6_count_121 : decode cX6_count 121 = .ok (.ireturn, 1) := by decide +kernel
theorem dX6_count_122 : decode cX6_count 122 = .ok (.aload_n 0, 1) := by decide +kernel
theorem dX6_count_123 : decode cX6_count 123 = .ok (.getfield 12, 3) := by decide +kernel
theorem dX6_count_126 : decode cX6_count 126 = .ok (.getfield 111, 3) := by decide +kernel
theorem dX6_count_129 : decode cX6_count 129 = .ok (.iload_n 1, 1) := by decide +kernel
theorem dX6_count_130 : decode cX6_count 130 = .ok (.bipush 10, 2) := by decide +kernel
theorem dX6_count_132 : decode cX6_count 132 = .ok (.isub, 1) := by decide +kernel
theorem dX6_count_133 : decode cX6_count 133 = .ok (.invokestatic 154, 3) := by decide +kernel
theorem dX6_count_136 : decode cX6_count 136 = .ok (.ireturn, 1) := by decide +kernel
set_option maxRecDepth 20000 in
theorem ggX6_bounds_X1_leastX : GoodIn wsX6_bounds wsX1_leastX := goodIn_r _ [6, 7, 8, 9, 5, 10, 11, 12, 39, 40, 41, 42] (by decide +kernel) (by decide +kernel)
set_option maxRecDepth 20000 in
theorem gX6_bounds_X1_leastX : GoodIn wsX6_bounds (wsV RX6 164 RX1 yX1_leastX wsX1_leastX) := goodIn_app (goodIn_of _ (by decide +kernel)) ggX6_bounds_X1_leastX
set_option maxRecDepth 20000 in
theorem ggX6_bounds_X6_boundOr : GoodIn wsX6_bounds wsX6_boundOr := goodIn_r _ [16] (by decide +kernel) (by decide +kernel)
set_option maxRecDepth 20000 in
theorem gX6_bounds_X6_boundOr : GoodIn wsX6_bounds (va_wsS RX6 167 yX6_boundOr wsX6_boundOr) := goodIn_app (goodIn_of _ (by decide +kernel)) ggX6_bounds_X6_boundOr
set_option maxRecDepth 20000 in
theorem ggX6_bounds_X1_greatestX : GoodIn wsX6_bounds wsX1_greatestX := goodIn_r _ [20, 7, 8, 9, 5, 10, 11, 12, 39, 40, 41, 42] (by decide +kernel) (by decide +kernel)
set_option maxRecDepth 20000 in
theorem gX6_bounds_X1_greatestX : GoodIn wsX6_bounds (wsV RX6 171 RX1 yX1_greatestX wsX1_greatestX) := goodIn_app (goodIn_of _ (by decide +kernel)) ggX6_bounds_X1_greatestX
set_option maxRecDepth 20000 in
theorem ggX6_bounds_X1_leastY : GoodIn wsX6_bounds wsX1_leastY := goodIn_r _ [24, 11, 12, 39, 40, 41, 42] (by decide +kernel) (by decide +kernel)
set_option maxRecDepth 20000 in
theorem gX6_bounds_X1_leastY : GoodIn wsX6_bounds (wsV RX6 174 RX1 yX1_leastY wsX1_leastY) := goodIn_app (goodIn_of _ (by decide +kernel)) ggX6_bounds_X1_leastY
set_option maxRecDepth 20000 in
theorem ggX6_bounds_X1_greatestY : GoodIn wsX6_bounds wsX1_greatestY := goodIn_r _ [28, 29, 12, 39, 40, 41, 42] (by decide +kernel) (by decide +kernel)
set_option maxRecDepth 20000 in
theorem gX6_bounds_X1_greatestY : GoodIn wsX6_bounds (wsV RX6 177 RX1 yX1_greatestY wsX1_greatestY) := goodIn_app (goodIn_of _ (by decide +kernel)) ggX6_bounds_X1_greatestY
theorem dX6_bounds_0 : decode cX6_bounds 0 = .ok (.iload_n 1, 1) := by decide +kernel
theorem dX6_bounds_1 : decode cX6_bounds 1 = .ok (.tableswitch 75 0 3 #[31, 42, 53, 64], 31) := by decide +kernel
theorem dX6_bounds_32 : decode cX6_bounds 32 = .ok (.aload_n 0, 1) := by decide +kernel
theorem dX6_bounds_33 : decode cX6_bounds 33 = .ok (.getfield 12, 3) := by decide +kernel
theorem dX6_bounds_36 : decode cX6_bounds 36 = .ok (.invokevirtual 164, 3) := by decide +kernel
theorem dX6_bounds_39 : decode cX6_bounds 39 = .ok (.invokestatic 167, 3) := by decide +kernel
theorem dX6_bounds_42 : decode cX6_bounds 42 = .ok (.ireturn, 1) := by decide +kernel
theorem dX6_bounds_43 : decode cX6_bounds 43 = .ok (.aload_n 0, 1) := by decide +kernel
theorem dX6_bounds_44 : decode cX6_bounds 44 = .ok (.getfield 12, 3) := by decide +kernel
theorem dX6_bounds_47 : decode cX6_bounds 47 = .ok (.invokevirtual 171, 3) := by decide +kernel
theorem dX6_bounds_50 : decode cX6_bounds 50 = .ok (.invokestatic 167, 3) := by decide +kernel
theorem dX6_bounds_53 : decode cX6_bounds 53 = .ok (.ireturn, 1) := by decide +kernel
theorem dX6_bounds_54 : decode cX6_bounds 54 = .ok (.aload_n 0, 1) := by decide +kernel
theorem dX6_bounds_55 : decode cX6_bounds 55 = .ok (.getfield 12, 3) := by decide +kernel
theorem dX6_bounds_58 : decode cX6_bounds 58 = .ok (.invokevirtual 174, 3) := by decide +kernel
theorem dX6_bounds_61 : decode cX6_bounds 61 = .ok (.invokestatic 167, 3) := by decide +kernel
theorem dX6_bounds_64 : decode cX6_bounds 64 = .ok (.ireturn, 1) := by decide +kernel
theorem dX6_bounds_65 : decode cX6_bounds 65 = .ok (.aload_n 0, 1) := by decide +kernel
theorem dX6_bounds_66 : decode cX6_bounds 66 = .ok (.getfield 12, 3) := by decide +kernel
theorem dX6_bounds_69 : decode cX6_bounds 69 = .ok (.invokevirtual 177, 3) := by decide +kernel
theorem dX6_bounds_72 : decode cX6_bounds 72 = .ok (.invokestatic 167, 3) := by decide +kernel
theorem dX6_bounds_75 : decode cX6_bounds 75 = .ok (.ireturn, 1) := by decide +kernel
theorem dX6_bounds_76 : decode cX6_bounds 76 = .ok (.sipush (-1001), 3) := by decide +kernel
theorem dX6_bounds_79 : decode cX6_bounds 79 = .ok (.ireturn, 1) := by decide +kernel
theorem dX6_digest_0 : decode cX6_digest 0 = .ok (.ldc2_w 180, 3) := by decide +kernel
theorem dX6_digest_3 : decode cX6_digest 3 = .ok (.lstore_n 1, 1) := by decide +kernel
theorem dX6_digest_4 : decode cX6_digest 4 = .ok (.sipush 239, 3) := by decide +kernel
theorem dX6_digest_7 : decode cX6_digest 7 = .ok (.istore_n 3, 1) := by decide +kernel
theorem dX6_digest_8 : decode cX6_digest 8 = .ok (.iload_n 3, 1) := by decide +kernel
theorem dX6_digest_9 : decode cX6_digest 9 = .ok (.ifCond .lt 54, 3) := by decide +kernel
theorem dX6_digest_12 : decode cX6_digest 12 = .ok (.iload_n 3, 1) := by decide +kernel
theorem dX6_digest_13 : decode cX6_digest 13 = .ok (.sipush 240, 3) := by decide +kernel
theorem dX6_digest_16 : decode cX6_digest 16 = .ok (.imul, 1) := by decide +kernel
theorem dX6_digest_17 : decode cX6_digest 17 = .ok (.istore 4, 2) := by decide +kernel
theorem dX6_digest_19 : decode cX6_digest 19 = .ok (.iconst 0, 1) := by decide +kernel
theorem dX6_digest_20 : decode cX6_digest 20 = .ok (.istore 5, 2) := by decide +kernel
theorem dX6_digest_22 : decode cX6_digest 22 = .ok (.iload 5, 2) := by decide +kernel
theorem dX6_digest_24 : decode cX6_digest 24 = .ok (.sipush 240, 3) := by decide +kernel
theorem dX6_digest_27 : decode cX6_digest 27 = .ok (.if_icmp .ge 30, 3) := by decide +kernel
theorem dX6_digest_30 : decode cX6_digest 30 = .ok (.ldc2_w 182, 3) := by decide +kernel
theorem dX6_digest_33 : decode cX6_digest 33 = .ok (.lload_n 1, 1) := by decide +kernel
theorem dX6_digest_34 : decode cX6_digest 34 = .ok (.lmul, 1) := by decide +kernel
theorem dX6_digest_35 : decode cX6_digest 35 = .ok (.aload_n 0, 1) := by decide +kernel
theorem dX6_digest_36 : decode cX6_digest 36 = .ok (.getfield 12, 3) := by decide +kernel
theorem dX6_digest_39 : decode cX6_digest 39 = .ok (.getfield 111, 3) := by decide +kernel
theorem dX6_digest_42 : decode cX6_digest 42 = .ok (.iload 4, 2) := by decide +kernel
theorem dX6_digest_44 : decode cX6_digest 44 = .ok (.iload 5, 2) := by decide +kernel
theorem dX6_digest_46 : decode cX6_digest 46 = .ok (.iadd, 1) := by decide +kernel
theorem dX6_digest_47 : decode cX6_digest 47 = .ok (.iaload, 1) := by decide +kernel
theorem dX6_digest_48 : decode cX6_digest 48 = .ok (.i2l, 1) := by decide +kernel
theorem dX6_digest_49 : decode cX6_digest 49 = .ok (.ladd, 1) := by decide +kernel
theorem dX6_digest_50 : decode cX6_digest 50 = .ok (.lstore_n 1, 1) := by decide +kernel
theorem dX6_digest_51 : decode cX6_digest 51 = .ok (.iinc 5 1, 3) := by decide +kernel
theorem dX6_digest_54 : decode cX6_digest 54 = .ok (.goto (-32), 3) := by decide +kernel
theorem dX6_digest_57 : decode cX6_digest 57 = .ok (.iinc 3 (-1), 3) := by decide +kernel
theorem dX6_digest_60 : decode cX6_digest 60 = .ok (.goto (-52), 3) := by decide +kernel
theorem dX6_digest_63 : decode cX6_digest 63 = .ok (.iconst 0, 1) := by decide +kernel
theorem dX6_digest_64 : decode cX6_digest 64 = .ok (.istore_n 3, 1) := by decide +kernel
theorem dX6_digest_65 : decode cX6_digest 65 = .ok (.iload_n 3, 1) := by decide +kernel
theorem dX6_digest_66 : decode cX6_digest 66 = .ok (.aload_n 0, 1) := by decide +kernel
theorem dX6_digest_67 : decode cX6_digest 67 = .ok (.getfield 67, 3) := by decide +kernel
theorem dX6_digest_70 : decode cX6_digest 70 = .ok (.if_icmp .ge 69, 3) := by decide +kernel
theorem dX6_digest_73 : decode cX6_digest 73 = .ok (.aload_n 0, 1) := by decide +kernel
theorem dX6_digest_74 : decode cX6_digest 74 = .ok (.getfield 25, 3) := by decide +kernel
theorem dX6_digest_77 : decode cX6_digest 77 = .ok (.iload_n 3, 1) := by decide +kernel
theorem dX6_digest_78 : decode cX6_digest 78 = .ok (.aaload, 1) := by decide +kernel
theorem dX6_digest_79 : decode cX6_digest 79 = .ok (.astore 4, 2) := by decide +kernel
theorem dX6_digest_81 : decode cX6_digest 81 = .ok (.ldc2_w 182, 3) := by decide +kernel
theorem dX6_digest_84 : decode cX6_digest 84 = .ok (.lload_n 1, 1) := by decide +kernel
theorem dX6_digest_85 : decode cX6_digest 85 = .ok (.lmul, 1) := by decide +kernel
theorem dX6_digest_86 : decode cX6_digest 86 = .ok (.aload 4, 2) := by decide +kernel
theorem dX6_digest_88 : decode cX6_digest 88 = .ok (.getfield 114, 3) := by decide +kernel
theorem dX6_digest_91 : decode cX6_digest 91 = .ok (.i2l, 1) := by decide +kernel
theorem dX6_digest_92 : decode cX6_digest 92 = .ok (.ladd, 1) := by decide +kernel
theorem dX6_digest_93 : decode cX6_digest 93 = .ok (.lstore_n 1, 1) := by decide +kernel
theorem dX6_digest_94 : decode cX6_digest 94 = .ok (.ldc2_w 182, 3) := by decide +kernel
theorem dX6_digest_97 : decode cX6_digest 97 = .ok (.lload_n 1, 1) := by decide +kernel
theorem dX6_digest_98 : decode cX6_digest 98 = .ok (.lmul, 1) := by decide +kernel
theorem dX6_digest_99 : decode cX6_digest 99 = .ok (.aload 4, 2) := by decide +kernel
theorem dX6_digest_101 : decode cX6_digest 101 = .ok (.getfield 117, 3) := by decide +kernel
theorem dX6_digest_104 : decode cX6_digest 104 = .ok (.i2l, 1) := by decide +kernel
theorem dX6_digest_105 : decode cX6_digest 105 = .ok (.ladd, 1) := by decide +kernel
theorem dX6_digest_106 : decode cX6_digest 106 = .ok (.lstore_n 1, 1) := by decide +kernel
theorem dX6_digest_107 : decode cX6_digest 107 = .ok (.ldc2_w 182, 3) := by decide +kernel
theorem dX6_digest_110 : decode cX6_digest 110 = .ok (.lload_n 1, 1) := by decide +kernel
theorem dX6_digest_111 : decode cX6_digest 111 = .ok (.lmul, 1) := by decide +kernel
theorem dX6_digest_112 : decode cX6_digest 112 = .ok (.aload 4, 2) := by decide +kernel
theorem dX6_digest_114 : decode cX6_digest 114 = .ok (.getfield 120, 3) := by decide +kernel
theorem dX6_digest_117 : decode cX6_digest 117 = .ok (.i2l, 1) := by decide +kernel
theorem dX6_digest_118 : decode cX6_digest 118 = .ok (.ladd, 1) := by decide +kernel
theorem dX6_digest_119 : decode cX6_digest 119 = .ok (.lstore_n 1, 1) := by decide +kernel
theorem dX6_digest_120 : decode cX6_digest 120 = .ok (.ldc2_w 182, 3) := by decide +kernel
theorem dX6_digest_123 : decode cX6_digest 123 = .ok (.lload_n 1, 1) := by decide +kernel
theorem dX6_digest_124 : decode cX6_digest 124 = .ok (.lmul, 1) := by decide +kernel
