theorem dX7_init_111 : decode cX7_init 111 = .ok (.newarray .boolean, 2) := by decide +kernel
theorem dX7_init_113 : decode cX7_init 113 = .ok (.putfield 54, 3) := by decide +kernel
theorem dX7_init_116 : decode cX7_init 116 = .ok (.aload_n 0, 1) := by decide +kernel
theorem dX7_init_117 : decode cX7_init 117 = .ok (.ldc 13, 2) := by decide +kernel
theorem dX7_init_119 : decode cX7_init 119 = .ok (.newarray .int, 2) := by decide +kernel
theorem dX7_init_121 : decode cX7_init 121 = .ok (.putfield 58, 3) := by decide +kernel
theorem dX7_init_124 : decode cX7_init 124 = .ok (.aload_n 0, 1) := by decide +kernel
theorem dX7_init_125 : decode cX7_init 125 = .ok (.iconst 4, 1) := by decide +kernel
theorem dX7_init_126 : decode cX7_init 126 = .ok (.newarray .int, 2) := by decide +kernel
theorem dX7_init_128 : decode cX7_init 128 = .ok (.putfield 61, 3) := by decide +kernel
theorem dX7_init_131 : decode cX7_init 131 = .ok (.aload_n 0, 1) := by decide +kernel
theorem dX7_init_132 : decode cX7_init 132 = .ok (.iconst 4, 1) := by decide +kernel
theorem dX7_init_133 : decode cX7_init 133 = .ok (.newarray .int, 2) := by decide +kernel
theorem dX7_init_135 : decode cX7_init 135 = .ok (.putfield 64, 3) := by decide +kernel
theorem dX7_init_138 : decode cX7_init 138 = .ok (.aload_n 0, 1) := by decide +kernel
theorem dX7_init_139 : decode cX7_init 139 = .ok (.sipush 240, 3) := by decide +kernel
theorem dX7_init_142 : decode cX7_init 142 = .ok (.newarray .int, 2) := by decide +kernel
theorem dX7_init_144 : decode cX7_init 144 = .ok (.putfield 67, 3) := by decide +kernel
theorem dX7_init_147 : decode cX7_init 147 = .ok (.aload_n 0, 1) := by decide +kernel
theorem dX7_init_148 : decode cX7_init 148 = .ok (.bipush 60, 2) := by decide +kernel
theorem dX7_init_150 : decode cX7_init 150 = .ok (.newarray .int, 2) := by decide +kernel
theorem dX7_init_152 : decode cX7_init 152 = .ok (.putfield 70, 3) := by decide +kernel
theorem dX7_init_155 : decode cX7_init 155 = .ok (.aload_n 0, 1) := by decide +kernel
theorem dX7_init_156 : decode cX7_init 156 = .ok (.iconst 0, 1) := by decide +kernel
theorem dX7_init_157 : decode cX7_init 157 = .ok (.iconst 2, 1) := by decide +kernel
theorem dX7_init_158 : decode cX7_init 158 = .ok (.invokevirtual 73, 3) := by decide +kernel
theorem dX7_init_161 : decode cX7_init 161 = .ok (.istore_n 1, 1) := by decide +kernel
theorem dX7_init_162 : decode cX7_init 162 = .ok (.iconst 0, 1) := by decide +kernel
theorem dX7_init_163 : decode cX7_init 163 = .ok (.istore_n 2, 1) := by decide +kernel
theorem dX7_init_164 : decode cX7_init 164 = .ok (.iload_n 2, 1) := by decide +kernel
theorem dX7_init_165 : decode cX7_init 165 = .ok (.iconst 4, 1) := by decide +kernel
theorem dX7_init_166 : decode cX7_init 166 = .ok (.if_icmp .ge 16, 3) := by decide +kernel
theorem dX7_init_169 : decode cX7_init 169 = .ok (.aload_n 0, 1) := by decide +kernel
theorem dX7_init_170 : decode cX7_init 170 = .ok (.getfield 61, 3) := by decide +kernel
theorem dX7_init_173 : decode cX7_init 173 = .ok (.iload_n 2, 1) := by decide +kernel
theorem dX7_init_174 : decode cX7_init 174 = .ok (.iconst (-1), 1) := by decide +kernel
theorem dX7_init_175 : decode cX7_init 175 = .ok (.iastore, 1) := by decide +kernel
theorem dX7_init_176 : decode cX7_init 176 = .ok (.iinc 2 1, 3) := by decide +kernel
theorem dX7_init_179 : decode cX7_init 179 = .ok (.goto (-15), 3) := by decide +kernel
theorem dX7_init_182 : decode cX7_init 182 = .ok (.return_, 1) := by decide +kernel
theorem dX7_directions_0 : decode cX7_directions 0 = .ok (.aload_n 0, 1) := by decide +kernel
theorem dX7_directions_1 : decode cX7_directions 1 = .ok (.getfield 77, 3) := by decide +kernel
theorem dX7_directions_4 : decode cX7_directions 4 = .ok (.ifCond .ne 7, 3) := by decide +kernel
theorem dX7_directions_7 : decode cX7_directions 7 = .ok (.iconst 4, 1) := by decide +kernel
theorem dX7_directions_8 : decode cX7_directions 8 = .ok (.goto 5, 3) := by decide +kernel
theorem dX7_directions_11 : decode cX7_directions 11 = .ok (.bipush 6, 2) := by decide +kernel
theorem dX7_directions_13 : decode cX7_directions 13 = .ok (.ireturn, 1) := by decide +kernel
set_option maxRecDepth 20000 in
theorem ggX7_floor_X7_in : GoodIn wsX7_floor wsX7_in := goodIn_r _ [14] (by decide +kernel) (by decide +kernel)
set_option maxRecDepth 20000 in
theorem gX7_floor_X7_in : GoodIn wsX7_floor (va_wsS RX7 1 yX7_in wsX7_in) := goodIn_app (goodIn_of _ (by decide +kernel)) ggX7_floor_X7_in
set_option maxRecDepth 20000 in
theorem ggX7_floor_X7_directions : GoodIn wsX7_floor wsX7_directions := goodIn_r _ [18, 2, 19, 20, 21, 22, 23, 24, 25, 26, 27, 28, 29, 30, 31, 32, 33, 34, 35, 36, 37, 38, 39, 40, 41, 42, 43, 44, 45, 46, 47, 48, 49, 50, 51] (by decide +kernel) (by decide +kernel)
set_option maxRecDepth 20000 in
theorem gX7_floor_X7_directions : GoodIn wsX7_floor (wsV RX7 87 RX7 yX7_directions wsX7_directions) := goodIn_app (goodIn_of _ (by decide +kernel)) ggX7_floor_X7_directions
theorem dX7_floor_0 : decode cX7_floor 0 = .ok (.iload_n 1, 1) := by decide +kernel
theorem dX7_floor_1 : decode cX7_floor 1 = .ok (.iconst 0, 1) := by decide +kernel
theorem dX7_floor_2 : decode cX7_floor 2 = .ok (.iconst 1, 1) := by decide +kernel
theorem dX7_floor_3 : decode cX7_floor 3 = .ok (.invokestatic 1, 3) := by decide +kernel
theorem dX7_floor_6 : decode cX7_floor 6 = .ok (.ifCond .eq 13, 3) := by decide +kernel
theorem dX7_floor_9 : decode cX7_floor 9 = .ok (.iload_n 2, 1) := by decide +kernel
theorem dX7_floor_10 : decode cX7_floor 10 = .ok (.iconst 2, 1) := by decide +kernel
theorem dX7_floor_11 : decode cX7_floor 11 = .ok (.bipush 12, 2) := by decide +kernel
theorem dX7_floor_13 : decode cX7_floor 13 = .ok (.invokestatic 1, 3) := by decide +kernel
theorem dX7_floor_16 : decode cX7_floor 16 = .ok (.ifCond .ne 5, 3) := by decide +kernel
theorem dX7_floor_19 : decode cX7_floor 19 = .ok (.iconst (-1), 1) := by decide +kernel
theorem dX7_floor_20 : decode cX7_floor 20 = .ok (.ireturn, 1) := by decide +kernel
theorem dX7_floor_21 : decode cX7_floor 21 = .ok (.aload_n 0, 1) := by decide +kernel
theorem dX7_floor_22 : decode cX7_floor 22 = .ok (.getfield 81, 3) := by decide +kernel
theorem dX7_floor_25 : decode cX7_floor 25 = .ok (.istore_n 3, 1) := by decide +kernel
theorem dX7_floor_26 : decode cX7_floor 26 = .ok (.aload_n 0, 1) := by decide +kernel
theorem dX7_floor_27 : decode cX7_floor 27 = .ok (.iload_n 1, 1) := by decide +kernel
theorem dX7_floor_28 : decode cX7_floor 28 = .ok (.putfield 77, 3) := by decide +kernel
theorem dX7_floor_31 : decode cX7_floor 31 = .ok (.aload_n 0, 1) := by decide +kernel
theorem dX7_floor_32 : decode cX7_floor 32 = .ok (.iload_n 2, 1) := by decide +kernel
theorem dX7_floor_33 : decode cX7_floor 33 = .ok (.putfield 84, 3) := by decide +kernel
theorem dX7_floor_36 : decode cX7_floor 36 = .ok (.iconst 0, 1) := by decide +kernel
theorem dX7_floor_37 : decode cX7_floor 37 = .ok (.istore 4, 2) := by decide +kernel
theorem dX7_floor_39 : decode cX7_floor 39 = .ok (.iload 4, 2) := by decide +kernel
theorem dX7_floor_41 : decode cX7_floor 41 = .ok (.ldc 13, 2) := by decide +kernel
theorem dX7_floor_43 : decode cX7_floor 43 = .ok (.if_icmp .ge 25, 3) := by decide +kernel
theorem dX7_floor_46 : decode cX7_floor 46 = .ok (.aload_n 0, 1) := by decide +kernel
theorem dX7_floor_47 : decode cX7_floor 47 = .ok (.getfield 14, 3) := by decide +kernel
theorem dX7_floor_50 : decode cX7_floor 50 = .ok (.iload 4, 2) := by decide +kernel
theorem dX7_floor_52 : decode cX7_floor 52 = .ok (.iconst 0, 1) := by decide +kernel
theorem dX7_floor_53 : decode cX7_floor 53 = .ok (.iastore, 1) := by decide +kernel
theorem dX7_floor_54 : decode cX7_floor 54 = .ok (.aload_n 0, 1) := by decide +kernel
theorem dX7_floor_55 : decode cX7_floor 55 = .ok (.getfield 18, 3) := by decide +kernel
theorem dX7_floor_58 : decode cX7_floor 58 = .ok (.iload 4, 2) := by decide +kernel
theorem dX7_floor_60 : decode cX7_floor 60 = .ok (.iconst 0, 1) := by decide +kernel
theorem dX7_floor_61 : decode cX7_floor 61 = .ok (.iastore, 1) := by decide +kernel
theorem dX7_floor_62 : decode cX7_floor 62 = .ok (.iinc 4 1, 3) := by decide +kernel
theorem dX7_floor_65 : decode cX7_floor 65 = .ok (.goto (-26), 3) := by decide +kernel
theorem dX7_floor_68 : decode cX7_floor 68 = .ok (.iconst 0, 1) := by decide +kernel
theorem dX7_floor_69 : decode cX7_floor 69 = .ok (.istore 4, 2) := by decide +kernel
theorem dX7_floor_71 : decode cX7_floor 71 = .ok (.iload 4, 2) := by decide +kernel
theorem dX7_floor_73 : decode cX7_floor 73 = .ok (.iconst 4, 1) := by decide +kernel
theorem dX7_floor_74 : decode cX7_floor 74 = .ok (.if_icmp .ge 55, 3) := by decide +kernel
theorem dX7_floor_77 : decode cX7_floor 77 = .ok (.iconst 0, 1) := by decide +kernel
theorem dX7_floor_78 : decode cX7_floor 78 = .ok (.istore 5, 2) := by decide +kernel
theorem dX7_floor_80 : decode cX7_floor 80 = .ok (.iload 5, 2) := by decide +kernel
theorem dX7_floor_82 : decode cX7_floor 82 = .ok (.bipush 12, 2) := by decide +kernel
theorem dX7_floor_84 : decode cX7_floor 84 = .ok (.if_icmp .ge 39, 3) := by decide +kernel
theorem dX7_floor_87 : decode cX7_floor 87 = .ok (.aload_n 0, 1) := by decide +kernel
theorem dX7_floor_88 : decode cX7_floor 88 = .ok (.getfield 21, 3) := by decide +kernel
theorem dX7_floor_91 : decode cX7_floor 91 = .ok (.bipush 12, 2) := by decide +kernel
theorem dX7_floor_93 : decode cX7_floor 93 = .ok (.iload 4, 2) := by decide +kernel
theorem dX7_floor_95 : decode cX7_floor 95 = .ok (.imul, 1) := by decide +kernel
theorem dX7_floor_96 : decode cX7_floor 96 = .ok (.iload 5, 2) := by decide +kernel
theorem dX7_floor_98 : decode cX7_floor 98 = .ok (.iadd, 1) := by decide +kernel
theorem dX7_floor_99 : decode cX7_floor 99 = .ok (.iload 5, 2) := by decide +kernel
theorem dX7_floor_101 : decode cX7_floor 101 = .ok (.iconst 2, 1) := by decide +kernel
theorem dX7_floor_102 : decode cX7_floor 102 = .ok (.irem, 1) := by decide +kernel
theorem dX7_floor_103 : decode cX7_floor 103 = .ok (.ifCond .ne 7, 3) := by decide +kernel
theorem dX7_floor_106 : decode cX7_floor 106 = .ok (.iconst 1, 1) := by decide +kernel
theorem dX7_floor_107 : decode cX7_floor 107 = .ok (.goto 9, 3) := by decide +kernel
theorem dX7_floor_110 : decode cX7_floor 110 = .ok (.aload_n 0, 1) := by decide +kernel
theorem dX7_floor_111 : decode cX7_floor 111 = .ok (.invokevirtual 87, 3) := by decide +kernel
theorem dX7_floor_114 : decode cX7_floor 114 = .ok (.iconst 1, 1) := by decide +kernel
theorem dX7_floor_115 : decode cX7_floor 115 = .ok (.isub, 1) := by decide +kernel
theorem dX7_floor_116 : decode cX7_floor 116 = .ok (.iastore, 1) := by decide +kernel
theorem dX7_floor_117 : decode cX7_floor 117 = .ok (.iinc 5 1, 3) := by decide +kernel
theorem dX7_floor_120 : decode cX7_floor 120 = .ok (.goto (-40), 3) := by decide +kernel
theorem dX7_floor_123 : decode cX7_floor 123 = .ok (.iinc 4 1, 3) := by decide +kernel
theorem dX7_floor_126 : decode cX7_floor 126 = .ok (.goto (-55), 3) := by decide +kernel
theorem dX7_floor_129 : decode cX7_floor 129 = .ok (.aload_n 0, 1) := by decide +kernel
theorem dX7_floor_130 : decode cX7_floor 130 = .ok (.iconst 0, 1) := by decide +kernel
theorem dX7_floor_131 : decode cX7_floor 131 = .ok (.putfield 81, 3) := by decide +kernel
theorem dX7_floor_134 : decode cX7_floor 134 = .ok (.aload_n 0, 1) := by decide +kernel
theorem dX7_floor_135 : decode cX7_floor 135 = .ok (.iconst 0, 1) := by decide +kernel
theorem dX7_floor_136 : decode cX7_floor 136 = .ok (.putfield 91, 3) := by decide +kernel
theorem dX7_floor_139 : decode cX7_floor 139 = .ok (.aload_n 0, 1) := by decide +kernel
theorem dX7_floor_140 : decode cX7_floor 140 = .ok (.iconst 0, 1) := by decide +kernel
theorem dX7_floor_141 : decode cX7_floor 141 = .ok (.putfield 94, 3) := by decide +kernel
theorem dX7_floor_144 : decode cX7_floor 144 = .ok (.aload_n 0, 1) := by decide +kernel
theorem dX7_floor_145 : decode cX7_floor 145 = .ok (.iconst 0, 1) := by decide +kernel
theorem dX7_floor_146 : decode cX7_floor 146 = .ok (.putfield 97, 3) := by decide +kernel
theorem dX7_floor_149 : decode cX7_floor 149 = .ok (.iload_n 3, 1) := by decide +kernel
theorem dX7_floor_150 : decode cX7_floor 150 = .ok (.ireturn, 1) := by decide +kernel
set_option maxRecDepth 20000 in
theorem ggX7_type_X7_in : GoodIn wsX7_type wsX7_in := goodIn_r _ [7] (by decide +kernel) (by decide +kernel)
set_option maxRecDepth 20000 in
theorem gX7_type_X7_in : GoodIn wsX7_type (va_wsS RX7 1 yX7_in wsX7_in) := goodIn_app (goodIn_of _ (by decide +kernel)) ggX7_type_X7_in
theorem dX7_type_0 : decode cX7_type 0 = .ok (.iload_n 3, 1) := by decide +kernel
theorem dX7_type_1 : decode cX7_type 1 = .ok (.iconst 1, 1) := by decide +kernel
theorem dX7_type_2 : decode cX7_type 2 = .ok (.bipush 8, 2) := by decide +kernel
theorem dX7_type_4 : decode cX7_type 4 = .ok (.invokestatic 1, 3) := by decide +kernel
theorem dX7_type_7 : decode cX7_type 7 = .ok (.ifCond .ne 5, 3) := by decide +kernel
theorem dX7_type_10 : decode cX7_type 10 = .ok (.iconst (-1), 1) := by decide +kernel
theorem dX7_type_11 : decode cX7_type 11 = .ok (.ireturn, 1) := by decide +kernel
theorem dX7_type_12 : decode cX7_type 12 = .ok (.aload_n 0, 1) := by decide +kernel
theorem dX7_type_13 : decode cX7_type 13 = .ok (.getfield 101, 3) := by decide +kernel
theorem dX7_type_16 : decode cX7_type 16 = .ok (.iload_n 3, 1) := by decide +kernel
theorem dX7_type_17 : decode cX7_type 17 = .ok (.iadd, 1) := by decide +kernel
theorem dX7_type_18 : decode cX7_type 18 = .ok (.bipush 12, 2) := by decide +kernel
theorem dX7_type_20 : decode cX7_type 20 = .ok (.if_icmp .le 6, 3) := by decide +kernel
theorem dX7_type_23 : decode cX7_type 23 = .ok (.bipush (-3), 2) := by decide +kernel
theorem dX7_type_25 : decode cX7_type 25 = .ok (.ireturn, 1) := by decide +kernel
theorem dX7_type_26 : decode cX7_type 26 = .ok (.iload_n 3, 1) := by decide +kernel
theorem dX7_type_27 : decode cX7_type 27 = .ok (.iconst 1, 1) := by decide +kernel
theorem dX7_type_28 : decode cX7_type 28 = .ok (.isub, 1) := by decide +kernel
theorem dX7_type_29 : decode cX7_type 29 = .ok (.istore 4, 2) := by decide +kernel
theorem dX7_type_31 : decode cX7_type 31 = .ok (.iload 4, 2) := by decide +kernel
theorem dX7_type_33 : decode cX7_type 33 = .ok (.ifCond .lt 40, 3) := by decide +kernel
theorem dX7_type_36 : decode cX7_type 36 = .ok (.aload_n 0, 1) := by decide +kernel
theorem dX7_type_37 : decode cX7_type 37 = .ok (.getfield 24, 3) := by decide +kernel
theorem dX7_type_40 : decode cX7_type 40 = .ok (.aload_n 0, 1) := by decide +kernel
theorem dX7_type_41 : decode cX7_type 41 = .ok (.getfield 101, 3) := by decide +kernel
theorem dX7_type_44 : decode cX7_type 44 = .ok (.lload_n 1, 1) := by decide +kernel
theorem dX7_type_45 : decode cX7_type 45 = .ok (.bipush 8, 2) := by decide +kernel
theorem dX7_type_47 : decode cX7_type 47 = .ok (.iload 4, 2) := by decide +kernel
theorem dX7_type_49 : decode cX7_type 49 = .ok (.imul, 1) := by decide +kernel
theorem dX7_type_50 : decode cX7_type 50 = .ok (.lshr, 1) := by decide +kernel
theorem dX7_type_51 : decode cX7_type 51 = .ok (.ldc2_w 104, 3) := by decide +kernel
theorem dX7_type_54 : decode cX7_type 54 = .ok (.land, 1) := by decide +kernel
theorem dX7_type_55 : decode cX7_type 55 = .ok (.l2i, 1) := by decide +kernel
theorem dX7_type_56 : decode cX7_type 56 = .ok (.iastore, 1) := by decide +kernel
theorem dX7_type_57 : decode cX7_type 57 = .ok (.aload_n 0, 1) := by decide +kernel
theorem dX7_type_58 : decode cX7_type 58 = .ok (.dup, 1) := by decide +kernel
theorem dX7_type_59 : decode cX7_type 59 = .ok (.getfield 101, 3) := by decide +kernel
theorem dX7_type_62 : decode cX7_type 62 = .ok (.iconst 1, 1) := by decide +kernel
theorem dX7_type_63 : decode cX7_type 63 = .ok (.iadd, 1) := by decide +kernel
theorem dX7_type_64 : decode cX7_type 64 = .ok (.putfield 101, 3) := by decide +kernel
theorem dX7_type_67 : decode cX7_type 67 = .ok (.iinc 4 (-1), 3) := by decide +kernel
theorem dX7_type_70 : decode cX7_type 70 = .ok (.goto (-39), 3) := by decide +kernel
theorem dX7_type_73 : decode cX7_type 73 = .ok (.aload_n 0, 1) := by decide +kernel
theorem dX7_type_74 : decode cX7_type 74 = .ok (.getfield 101, 3) := by decide +kernel
theorem dX7_type_77 : decode cX7_type 77 = .ok (.ireturn, 1) := by decide +kernel
set_option maxRecDepth 20000 in
theorem ggX7_turnOf_X7_directions : GoodIn wsX7_turnOf wsX7_directions := goodIn_r _ [5, 6, 7, 8, 9, 10, 11, 12, 13, 14, 15, 16, 17, 18, 19, 20, 21, 22, 23, 24, 25, 26, 27, 28, 29, 30, 31, 32, 33, 34, 35, 36, 37, 38, 39] (by decide +kernel) (by decide +kernel)
set_option maxRecDepth 20000 in
theorem gX7_turnOf_X7_directions : GoodIn wsX7_turnOf (wsV RX7 87 RX7 yX7_directions wsX7_directions) := goodIn_app (goodIn_of _ (by decide +kernel)) ggX7_turnOf_X7_directions
theorem dX7_turnOf_0 : decode cX7_turnOf 0 = .ok (.aload_n 0, 1) := by decide +kernel
theorem dX7_turnOf_1 : decode cX7_turnOf 1 = .ok (.invokevirtual 87, 3) := by decide +kernel
theorem dX7_turnOf_4 : decode cX7_turnOf 4 = .ok (.istore_n 2, 1) := by decide +kernel
theorem dX7_turnOf_5 : decode cX7_turnOf 5 = .ok (.iload_n 1, 1) := by decide +kernel
theorem dX7_turnOf_6 : decode cX7_turnOf 6 = .ok (.tableswitch 90 76 85 #[58, 78, 54, 90, 90, 90, 56, 66, 90, 62], 54) := by decide +kernel
theorem dX7_turnOf_60 : decode cX7_turnOf 60 = .ok (.iconst 0, 1) := by decide +kernel
theorem dX7_turnOf_61 : decode cX7_turnOf 61 = .ok (.ireturn, 1) := by decide +kernel
theorem dX7_turnOf_62 : decode cX7_turnOf 62 = .ok (.iconst 1, 1) := by decide +kernel
theorem dX7_turnOf_63 : decode cX7_turnOf 63 = .ok (.ireturn, 1) := by decide +kernel
theorem dX7_turnOf_64 : decode cX7_turnOf 64 = .ok (.iload_n 2, 1) := by decide +kernel
theorem dX7_turnOf_65 : decode cX7_turnOf 65 = .ok (.iconst 1, 1) := by decide +kernel
theorem dX7_turnOf_66 : decode cX7_turnOf 66 = .ok (.isub, 1) := by decide +kernel
theorem dX7_turnOf_67 : decode cX7_turnOf 67 = .ok (.ireturn, 1) := by decide +kernel
theorem dX7_turnOf_68 : decode cX7_turnOf 68 = .ok (.iload_n 2, 1) := by decide +kernel
theorem dX7_turnOf_69 : decode cX7_turnOf 69 = .ok (.iconst 2, 1) := by decide +kernel
theorem dX7_turnOf_70 : decode cX7_turnOf 70 = .ok (.idiv, 1) := by decide +kernel
theorem dX7_turnOf_71 : decode cX7_turnOf 71 = .ok (.ireturn, 1) := by decide +kernel
theorem dX7_turnOf_72 : decode cX7_turnOf 72 = .ok (.iload_n 2, 1) := by decide +kernel
theorem dX7_turnOf_73 : decode cX7_turnOf 73 = .ok (.bipush 6, 2) := by decide +kernel
theorem dX7_turnOf_75 : decode cX7_turnOf 75 = .ok (.if_icmp .ne 7, 3) := by decide +kernel
theorem dX7_turnOf_78 : decode cX7_turnOf 78 = .ok (.iconst 2, 1) := by decide +kernel
theorem dX7_turnOf_79 : decode cX7_turnOf 79 = .ok (.goto 4, 3) := by decide +kernel
theorem dX7_turnOf_82 : decode cX7_turnOf 82 = .ok (.iconst (-1), 1) := by decide +kernel
theorem dX7_turnOf_83 : decode cX7_turnOf 83 = .ok (.ireturn, 1) := by decide +kernel
theorem dX7_turnOf_84 : decode cX7_turnOf 84 = .ok (.iload_n 2, 1) := by decide +kernel
theorem dX7_turnOf_85 : decode cX7_turnOf 85 = .ok (.bipush 6, 2) := by decide +kernel
theorem dX7_turnOf_87 : decode cX7_turnOf 87 = .ok (.if_icmp .ne 7, 3) := by decide +kernel
theorem dX7_turnOf_90 : decode cX7_turnOf 90 = .ok (.iconst 4, 1) := by decide +kernel
theorem dX7_turnOf_91 : decode cX7_turnOf 91 = .ok (.goto 4, 3) := by decide +kernel
theorem dX7_turnOf_94 : decode cX7_turnOf 94 = .ok (.iconst (-1), 1) := by decide +kernel
theorem dX7_turnOf_95 : decode cX7_turnOf 95 = .ok (.ireturn, 1) := by decide +kernel
theorem dX7_turnOf_96 : decode cX7_turnOf 96 = .ok (.iconst (-1), 1) := by decide +kernel
theorem dX7_turnOf_97 : decode cX7_turnOf 97 = .ok (.ireturn, 1) := by decide +kernel
set_option maxRecDepth 20000 in
theorem ggX7_rule_X7_in : GoodIn wsX7_rule wsX7_in := goodIn_r _ [9] (by decide +kernel) (by decide +kernel)
set_option maxRecDepth 20000 in
theorem gX7_rule_X7_in : GoodIn wsX7_rule (va_wsS RX7 1 yX7_in wsX7_in) := goodIn_app (goodIn_of _ (by decide +kernel)) ggX7_rule_X7_in
set_option maxRecDepth 20000 in
theorem ggX7_rule_X7_turnOf : GoodIn wsX7_rule wsX7_turnOf := goodIn_r _ [13, 14, 15, 16, 8, 17, 18, 19, 20, 21, 22, 23, 24, 25, 26, 27, 28, 29, 30, 31, 32, 33, 34, 35, 36, 37, 38, 39, 40, 41, 42, 43, 44, 45, 46, 47, 48, 49, 50, 51] (by decide +kernel) (by decide +kernel)
set_option maxRecDepth 20000 in
theorem gX7_rule_X7_turnOf : GoodIn wsX7_rule (wsV RX7 106 RX7 yX7_turnOf wsX7_turnOf) := goodIn_app (goodIn_of _ (by decide +kernel)) ggX7_rule_X7_turnOf
theorem dX7_rule_0 : decode cX7_rule 0 = .ok (.iload_n 1, 1) := by decide +kernel
theorem dX7_rule_1 : decode cX7_rule 1 = .ok (.iconst 0, 1) := by decide +kernel
theorem dX7_rule_2 : decode cX7_rule 2 = .ok (.iconst 3, 1) := by decide +kernel
theorem dX7_rule_3 : decode cX7_rule 3 = .ok (.invokestatic 1, 3) := by decide +kernel
theorem dX7_rule_6 : decode cX7_rule 6 = .ok (.ifCond .ne 5, 3) := by decide +kernel
theorem dX7_rule_9 : decode cX7_rule 9 = .ok (.iconst (-1), 1) := by decide +kernel
theorem dX7_rule_10 : decode cX7_rule 10 = .ok (.ireturn, 1) := by decide +kernel
theorem dX7_rule_11 : decode cX7_rule 11 = .ok (.aload_n 0, 1) := by decide +kernel
theorem dX7_rule_12 : decode cX7_rule 12 = .ok (.getfield 101, 3) := by decide +kernel
theorem dX7_rule_15 : decode cX7_rule 15 = .ok (.istore_n 2, 1) := by decide +kernel
theorem dX7_rule_16 : decode cX7_rule 16 = .ok (.aload_n 0, 1) := by decide +kernel
theorem dX7_rule_17 : decode cX7_rule 17 = .ok (.iconst 0, 1) := by decide +kernel
theorem dX7_rule_18 : decode cX7_rule 18 = .ok (.putfield 101, 3) := by decide +kernel
theorem dX7_rule_21 : decode cX7_rule 21 = .ok (.iload_n 2, 1) := by decide +kernel
theorem dX7_rule_22 : decode cX7_rule 22 = .ok (.aload_n 0, 1) := by decide +kernel
theorem dX7_rule_23 : decode cX7_rule 23 = .ok (.getfield 84, 3) := by decide +kernel
theorem dX7_rule_26 : decode cX7_rule 26 = .ok (.if_icmp .ne 7, 3) := by decide +kernel
theorem dX7_rule_29 : decode cX7_rule 29 = .ok (.iconst 1, 1) := by decide +kernel
theorem dX7_rule_30 : decode cX7_rule 30 = .ok (.goto 4, 3) := by decide +kernel
theorem dX7_rule_33 : decode cX7_rule 33 = .ok (.iconst 0, 1) := by decide +kernel
theorem dX7_rule_34 : decode cX7_rule 34 = .ok (.istore_n 3, 1) := by decide +kernel
theorem dX7_rule_35 : decode cX7_rule 35 = .ok (.iconst 0, 1) := by decide +kernel
theorem dX7_rule_36 : decode cX7_rule 36 = .ok (.istore 4, 2) := by decide +kernel
theorem dX7_rule_38 : decode cX7_rule 38 = .ok (.iload 4, 2) := by decide +kernel
theorem dX7_rule_40 : decode cX7_rule 40 = .ok (.iload_n 2, 1) := by decide +kernel
theorem dX7_rule_41 : decode cX7_rule 41 = .ok (.if_icmp .ge 33, 3) := by decide +kernel
theorem dX7_rule_44 : decode cX7_rule 44 = .ok (.iload_n 3, 1) := by decide +kernel
theorem dX7_rule_45 : decode cX7_rule 45 = .ok (.ifCond .eq 21, 3) := by decide +kernel
theorem dX7_rule_48 : decode cX7_rule 48 = .ok (.aload_n 0, 1) := by decide +kernel
theorem dX7_rule_49 : decode cX7_rule 49 = .ok (.aload_n 0, 1) := by decide +kernel
theorem dX7_rule_50 : decode cX7_rule 50 = .ok (.getfield 24, 3) := by decide +kernel
theorem dX7_rule_53 : decode cX7_rule 53 = .ok (.iload 4, 2) := by decide +kernel
theorem dX7_rule_55 : decode cX7_rule 55 = .ok (.iaload, 1) := by decide +kernel
theorem dX7_rule_56 : decode cX7_rule 56 = .ok (.invokevirtual 106, 3) := by decide +kernel
theorem dX7_rule_59 : decode cX7_rule 59 = .ok (.ifCond .lt 7, 3) := by decide +kernel
theorem dX7_rule_62 : decode cX7_rule 62 = .ok (.iconst 1, 1) := by decide +kernel
theorem dX7_rule_63 : decode cX7_rule 63 = .ok (.goto 4, 3) := by decide +kernel
theorem dX7_rule_66 : decode cX7_rule 66 = .ok (.iconst 0, 1) := by decide +kernel
theorem dX7_rule_67 : decode cX7_rule 67 = .ok (.istore_n 3, 1) := by decide +kernel
theorem dX7_rule_68 : decode cX7_rule 68 = .ok (.iinc 4 1, 3) := by decide +kernel
theorem dX7_rule_71 : decode cX7_rule 71 = .ok (.goto (-33), 3) := by decide +kernel
theorem dX7_rule_74 : decode cX7_rule 74 = .ok (.iload_n 3, 1) := by decide +kernel
theorem dX7_rule_75 : decode cX7_rule 75 = .ok (.ifCond .ne 6, 3) := by decide +kernel
theorem dX7_rule_78 : decode cX7_rule 78 = .ok (.bipush (-2), 2) := by decide +kernel
theorem dX7_rule_80 : decode cX7_rule 80 = .ok (.ireturn, 1) := by decide +kernel
theorem dX7_rule_81 : decode cX7_rule 81 = .ok (.iconst 0, 1) := by decide +kernel
theorem dX7_rule_82 : decode cX7_rule 82 = .ok (.istore 4, 2) := by decide +kernel
theorem dX7_rule_84 : decode cX7_rule 84 = .ok (.iload 4, 2) := by decide +kernel
theorem dX7_rule_86 : decode cX7_rule 86 = .ok (.iload_n 2, 1) := by decide +kernel
theorem dX7_rule_87 : decode cX7_rule 87 = .ok (.if_icmp .ge 32, 3) := by decide +kernel
theorem dX7_rule_90 : decode cX7_rule 90 = .ok (.aload_n 0, 1) := by decide +kernel
theorem dX7_rule_91 : decode cX7_rule 91 = .ok (.getfield 21, 3) := by decide +kernel
theorem dX7_rule_94 : decode cX7_rule 94 = .ok (.bipush 12, 2) := by decide +kernel
theorem dX7_rule_96 : decode cX7_rule 96 = .ok (.iload_n 1, 1) := by decide +kernel
theorem dX7_rule_97 : decode cX7_rule 97 = .ok (.imul, 1) := by decide +kernel
theorem dX7_rule_98 : decode cX7_rule 98 = .ok (.iload 4, 2) := by decide +kernel
theorem dX7_rule_100 : decode cX7_rule 100 = .ok (.iadd, 1) := by decide +kernel
theorem dX7_rule_101 : decode cX7_rule 101 = .ok (.aload_n 0, 1) := by decide +kernel
theorem dX7_rule_102 : decode cX7_rule 102 = .ok (.aload_n 0, 1) := by decide +kernel
theorem dX7_rule_103 : decode cX7_rule 103 = .ok (.getfield 24, 3) := by decide +kernel
theorem dX7_rule_106 : decode cX7_rule 106 = .ok (.iload 4, 2) := by decide +kernel
theorem dX7_rule_108 : decode cX7_rule 108 = .ok (.iaload, 1) := by decide +kernel
theorem dX7_rule_109 : decode cX7_rule 109 = .ok (.invokevirtual 106, 3) := by decide +kernel
theorem dX7_rule_112 : decode cX7_rule 112 = .ok (.iastore, 1) := by decide +kernel
theorem dX7_rule_113 : decode cX7_rule 113 = .ok (.iinc 4 1, 3) := by decide +kernel
theorem dX7_rule_116 : decode cX7_rule 116 = .ok (.goto (-32), 3) := by decide +kernel
theorem dX7_rule_119 : decode cX7_rule 119 = .ok (.aload_n 0, 1) := by decide +kernel
theorem dX7_rule_120 : decode cX7_rule 120 = .ok (.iconst 1, 1) := by decide +kernel
theorem dX7_rule_121 : decode cX7_rule 121 = .ok (.putfield 110, 3) := by decide +kernel
theorem dX7_rule_124 : decode cX7_rule 124 = .ok (.iload_n 2, 1) := by decide +kernel
theorem dX7_rule_125 : decode cX7_rule 125 = .ok (.ireturn, 1) := by decide +kernel
set_option maxRecDepth 20000 in
theorem ggX7_ant_X7_isCell : GoodIn wsX7_ant wsX7_isCell := goodIn_r _ [10, 11, 12, 9, 13] (by decide +kernel) (by decide +kernel)
set_option maxRecDepth 20000 in
theorem gX7_ant_X7_isCell : GoodIn wsX7_ant (va_wsS RX7 113 yX7_isCell wsX7_isCell) := goodIn_app (goodIn_of _ (by decide +kernel)) ggX7_ant_X7_isCell
set_option maxRecDepth 20000 in
theorem ggX7_ant_X7_directions : GoodIn wsX7_ant wsX7_directions := goodIn_r _ [17, 18, 19, 20, 21, 22, 23, 24, 25, 26, 27, 28, 29, 30, 31, 32, 33, 34, 35, 36, 37, 38, 39, 40, 41, 42, 43, 44, 45, 46, 47, 48, 49, 50, 51] (by decide +kernel) (by decide +kernel)
set_option maxRecDepth 20000 in
theorem gX7_ant_X7_directions : GoodIn wsX7_ant (wsV RX7 87 RX7 yX7_directions wsX7_directions) := goodIn_app (goodIn_of _ (by decide +kernel)) ggX7_ant_X7_directions
set_option maxRecDepth 20000 in
theorem ggX7_ant_X7_in : GoodIn wsX7_ant wsX7_in := goodIn_r _ [13] (by decide +kernel) (by decide +kernel)
set_option maxRecDepth 20000 in
theorem gX7_ant_X7_in : GoodIn wsX7_ant (va_wsS RX7 1 yX7_in wsX7_in) := goodIn_app (goodIn_of _ (by decide +kernel)) ggX7_ant_X7_in
theorem dX7_ant_0 : decode cX7_ant 0 = .ok (.iload_n 1, 1) := by decide +kernel
theorem dX7_ant_1 : decode cX7_ant 1 = .ok (.iload_n 2, 1) := by decide +kernel
theorem dX7_ant_2 : decode cX7_ant 2 = .ok (.invokestatic 113, 3) := by decide +kernel
theorem dX7_ant_5 : decode cX7_ant 5 = .ok (.ifCond .eq 27, 3) := by decide +kernel
theorem dX7_ant_8 : decode cX7_ant 8 = .ok (.iload_n 3, 1) := by decide +kernel
theorem dX7_ant_9 : decode cX7_ant 9 = .ok (.iconst 0, 1) := by decide +kernel
theorem dX7_ant_10 : decode cX7_ant 10 = .ok (.aload_n 0, 1) := by decide +kernel
theorem dX7_ant_11 : decode cX7_ant 11 = .ok (.invokevirtual 87, 3) := by decide +kernel
theorem dX7_ant_14 : decode cX7_ant 14 = .ok (.iconst 1, 1) := by decide +kernel
theorem dX7_ant_15 : decode cX7_ant 15 = .ok (.isub, 1) := by decide +kernel
theorem dX7_ant_16 : decode cX7_ant 16 = .ok (.invokestatic 1, 3) := by decide +kernel
theorem dX7_ant_19 : decode cX7_ant 19 = .ok (.ifCond .eq 13, 3) := by decide +kernel
theorem dX7_ant_22 : decode cX7_ant 22 = .ok (.iload 4, 2) := by decide +kernel
theorem dX7_ant_24 : decode cX7_ant 24 = .ok (.iconst 0, 1) := by decide +kernel
theorem dX7_ant_25 : decode cX7_ant 25 = .ok (.iconst 3, 1) := by decide +kernel
theorem dX7_ant_26 : decode cX7_ant 26 = .ok (.invokestatic 1, 3) := by decide +kernel
theorem dX7_ant_29 : decode cX7_ant 29 = .ok (.ifCond .ne 5, 3) := by decide +kernel
theorem dX7_ant_32 : decode cX7_ant 32 = .ok (.iconst (-1), 1) := by decide +kernel
theorem dX7_ant_33 : decode cX7_ant 33 = .ok (.ireturn, 1) := by decide +kernel
theorem dX7_ant_34 : decode cX7_ant 34 = .ok (.aload_n 0, 1) := by decide +kernel
theorem dX7_ant_35 : decode cX7_ant 35 = .ok (.getfield 81, 3) := by decide +kernel
theorem dX7_ant_38 : decode cX7_ant 38 = .ok (.bipush 6, 2) := by decide +kernel
theorem dX7_ant_40 : decode cX7_ant 40 = .ok (.if_icmp .ne 6, 3) := by decide +kernel
theorem dX7_ant_43 : decode cX7_ant 43 = .ok (.bipush (-3), 2) := by decide +kernel
theorem dX7_ant_45 : decode cX7_ant 45 = .ok (.ireturn, 1) := by decide +kernel
theorem dX7_ant_46 : decode cX7_ant 46 = .ok (.aload_n 0, 1) := by decide +kernel
theorem dX7_ant_47 : decode cX7_ant 47 = .ok (.getfield 27, 3) := by decide +kernel
theorem dX7_ant_50 : decode cX7_ant 50 = .ok (.aload_n 0, 1) := by decide +kernel
theorem dX7_ant_51 : decode cX7_ant 51 = .ok (.getfield 81, 3) := by decide +kernel
theorem dX7_ant_54 : decode cX7_ant 54 = .ok (.iload_n 1, 1) := by decide +kernel
theorem dX7_ant_55 : decode cX7_ant 55 = .ok (.iastore, 1) := by decide +kernel
theorem dX7_ant_56 : decode cX7_ant 56 = .ok (.aload_n 0, 1) := by decide +kernel
theorem dX7_ant_57 : decode cX7_ant 57 = .ok (.getfield 30, 3) := by decide +kernel
theorem dX7_ant_60 : decode cX7_ant 60 = .ok (.aload_n 0, 1) := by decide +kernel
theorem dX7_ant_61 : decode cX7_ant 61 = .ok (.getfield 81, 3) := by decide +kernel
theorem dX7_ant_64 : decode cX7_ant 64 = .ok (.iload_n 2, 1) := by decide +kernel
theorem dX7_ant_65 : decode cX7_ant 65 = .ok (.iastore, 1) := by decide +kernel
theorem dX7_ant_66 : decode cX7_ant 66 = .ok (.aload_n 0, 1) := by decide +kernel
theorem dX7_ant_67 : decode cX7_ant 67 = .ok (.getfield 33, 3) := by decide +kernel
theorem dX7_ant_70 : decode cX7_ant 70 = .ok (.aload_n 0, 1) := by decide +kernel
theorem dX7_ant_71 : decode cX7_ant 71 = .ok (.getfield 81, 3) := by decide +kernel
theorem dX7_ant_74 : decode cX7_ant 74 = .ok (.iload_n 3, 1) := by decide +kernel
theorem dX7_ant_75 : decode cX7_ant 75 = .ok (.iastore, 1) := by decide +kernel
theorem dX7_ant_76 : decode cX7_ant 76 = .ok (.aload_n 0, 1) := by decide +kernel
theorem dX7_ant_77 : decode cX7_ant 77 = .ok (.getfield 36, 3) := by decide +kernel
theorem dX7_ant_80 : decode cX7_ant 80 = .ok (.aload_n 0, 1) := by decide +kernel
theorem dX7_ant_81 : decode cX7_ant 81 = .ok (.getfield 81, 3) := by decide +kernel
theorem dX7_ant_84 : decode cX7_ant 84 = .ok (.iload 4, 2) := by decide +kernel
theorem dX7_ant_86 : decode cX7_ant 86 = .ok (.iastore, 1) := by decide +kernel
theorem dX7_ant_87 : decode cX7_ant 87 = .ok (.aload_n 0, 1) := by decide +kernel
theorem dX7_ant_88 : decode cX7_ant 88 = .ok (.dup, 1) := by decide +kernel
theorem dX7_ant_89 : decode cX7_ant 89 = .ok (.getfield 81, 3) := by decide +kernel
theorem dX7_ant_92 : decode cX7_ant 92 = .ok (.iconst 1, 1) := by decide +kernel
theorem dX7_ant_93 : decode cX7_ant 93 = .ok (.iadd, 1) := by decide +kernel
theorem dX7_ant_94 : decode cX7_ant 94 = .ok (.putfield 81, 3) := by decide +kernel
theorem dX7_ant_97 : decode cX7_ant 97 = .ok (.aload_n 0, 1) := by decide +kernel
theorem dX7_ant_98 : decode cX7_ant 98 = .ok (.iconst 1, 1) := by decide +kernel
theorem dX7_ant_99 : decode cX7_ant 99 = .ok (.putfield 110, 3) := by decide +kernel
theorem dX7_ant_102 : decode cX7_ant 102 = .ok (.aload_n 0, 1) := by decide +kernel
theorem dX7_ant_103 : decode cX7_ant 103 = .ok (.getfield 81, 3) := by decide +kernel
theorem dX7_ant_106 : decode cX7_ant 106 = .ok (.iconst 1, 1) := by decide +kernel
theorem dX7_ant_107 : decode cX7_ant 107 = .ok (.isub, 1) := by decide +kernel
theorem dX7_ant_108 : decode cX7_ant 108 = .ok (.ireturn, 1) := by decide +kernel
theorem dX7_less_0 : decode cX7_less 0 = .ok (.aload_n 0, 1) := by decide +kernel
theorem dX7_less_1 : decode cX7_less 1 = .ok (.getfield 81, 3) := by decide +kernel
theorem dX7_less_4 : decode cX7_less 4 = .ok (.ifCond .ne 6, 3) := by decide +kernel
theorem dX7_less_7 : decode cX7_less 7 = .ok (.bipush (-2), 2) := by decide +kernel
theorem dX7_less_9 : decode cX7_less 9 = .ok (.ireturn, 1) := by decide +kernel
theorem dX7_less_10 : decode cX7_less 10 = .ok (.aload_n 0, 1) := by decide +kernel
theorem dX7_less_11 : decode cX7_less 11 = .ok (.dup, 1) := by decide +kernel
theorem dX7_less_12 : decode cX7_less 12 = .ok (.getfield 81, 3) := by decide +kernel
theorem dX7_less_15 : decode cX7_less 15 = .ok (.iconst 1, 1) := by decide +kernel
theorem dX7_less_16 : decode cX7_less 16 = .ok (.isub, 1) := by decide +kernel
theorem dX7_less_17 : decode cX7_less 17 = .ok (.putfield 81, 3) := by decide +kernel
theorem dX7_less_20 : decode cX7_less 20 = .ok (.aload_n 0, 1) := by decide +kernel
theorem dX7_less_21 : decode cX7_less 21 = .ok (.iconst 1, 1) := by decide +kernel
theorem dX7_less_22 : decode cX7_less 22 = .ok (.putfield 110, 3) := by decide +kernel
theorem dX7_less_25 : decode cX7_less 25 = .ok (.aload_n 0, 1) := by decide +kernel
theorem dX7_less_26 : decode cX7_less 26 = .ok (.getfield 81, 3) := by decide +kernel
theorem dX7_less_29 : decode cX7_less 29 = .ok (.ireturn, 1) := by decide +kernel
set_option maxRecDepth 20000 in
theorem ggX7_paint_X7_isCell : GoodIn wsX7_paint wsX7_isCell := goodIn_r _ [7, 8, 9, 6, 10] (by decide +kernel) (by decide +kernel)
set_option maxRecDepth 20000 in
theorem gX7_paint_X7_isCell : GoodIn wsX7_paint (va_wsS RX7 113 yX7_isCell wsX7_isCell) := goodIn_app (goodIn_of _ (by decide +kernel)) ggX7_paint_X7_isCell
set_option maxRecDepth 20000 in
theorem ggX7_paint_X7_in : GoodIn wsX7_paint wsX7_in := goodIn_r _ [10] (by decide +kernel) (by decide +kernel)
set_option maxRecDepth 20000 in
theorem gX7_paint_X7_in : GoodIn wsX7_paint (va_wsS RX7 1 yX7_in wsX7_in) := goodIn_app (goodIn_of _ (by decide +kernel)) ggX7_paint_X7_in
set_option maxRecDepth 20000 in
theorem ggX7_paint_X7_cell : GoodIn wsX7_paint wsX7_cell := goodIn_r _ [13] (by decide +kernel) (by decide +kernel)
set_option maxRecDepth 20000 in
theorem gX7_paint_X7_cell : GoodIn wsX7_paint (va_wsS RX7 117 yX7_cell wsX7_cell) := goodIn_app (goodIn_of _ (by decide +kernel)) ggX7_paint_X7_cell
theorem dX7_paint_0 : decode cX7_paint 0 = .ok (.iload_n 1, 1) := by decide +kernel
theorem dX7_paint_1 : decode cX7_paint 1 = .ok (.iload_n 2, 1) := by decide +kernel
theorem dX7_paint_2 : decode cX7_paint 2 = .ok (.invokestatic 113, 3) := by decide +kernel
theorem dX7_paint_5 : decode cX7_paint 5 = .ok (.ifCond .eq 17, 3) := by decide +kernel
theorem dX7_paint_8 : decode cX7_paint 8 = .ok (.iload_n 3, 1) := by decide +kernel
theorem dX7_paint_9 : decode cX7_paint 9 = .ok (.iconst 0, 1) := by decide +kernel
theorem dX7_paint_10 : decode cX7_paint 10 = .ok (.aload_n 0, 1) := by decide +kernel
theorem dX7_paint_11 : decode cX7_paint 11 = .ok (.getfield 84, 3) := by decide +kernel
theorem dX7_paint_14 : decode cX7_paint 14 = .ok (.iconst 1, 1) := by decide +kernel
theorem dX7_paint_15 : decode cX7_paint 15 = .ok (.isub, 1) := by decide +kernel
theorem dX7_paint_16 : decode cX7_paint 16 = .ok (.invokestatic 1, 3) := by decide +kernel
theorem dX7_paint_19 : decode cX7_paint 19 = .ok (.ifCond .ne 5, 3) := by decide +kernel
theorem dX7_paint_22 : decode cX7_paint 22 = .ok (.iconst (-1), 1) := by decide +kernel
theorem dX7_paint_23 : decode cX7_paint 23 = .ok (.ireturn, 1) := by decide +kernel
theorem dX7_paint_24 : decode cX7_paint 24 = .ok (.aload_n 0, 1) := by decide +kernel
theorem dX7_paint_25 : decode cX7_paint 25 = .ok (.getfield 14, 3) := by decide +kernel
theorem dX7_paint_28 : decode cX7_paint 28 = .ok (.iload_n 1, 1) := by decide +kernel
theorem dX7_paint_29 : decode cX7_paint 29 = .ok (.iload_n 2, 1) := by decide +kernel
theorem dX7_paint_30 : decode cX7_paint 30 = .ok (.invokestatic 117, 3) := by decide +kernel
theorem dX7_paint_33 : decode cX7_paint 33 = .ok (.iaload, 1) := by decide +kernel
theorem dX7_paint_34 : decode cX7_paint 34 = .ok (.istore 4, 2) := by decide +kernel
theorem dX7_paint_36 : decode cX7_paint 36 = .ok (.aload_n 0, 1) := by decide +kernel
theorem dX7_paint_37 : decode cX7_paint 37 = .ok (.getfield 14, 3) := by decide +kernel
theorem dX7_paint_40 : decode cX7_paint 40 = .ok (.iload_n 1, 1) := by decide +kernel
theorem dX7_paint_41 : decode cX7_paint 41 = .ok (.iload_n 2, 1) := by decide +kernel
theorem dX7_paint_42 : decode cX7_paint 42 = .ok (.invokestatic 117, 3) := by decide +kernel
theorem dX7_paint_45 : decode cX7_paint 45 = .ok (.iload_n 3, 1) := by decide +kernel
theorem dX7_paint_46 : decode cX7_paint 46 = .ok (.iastore, 1) := by decide +kernel
theorem dX7_paint_47 : decode cX7_paint 47 = .ok (.aload_n 0, 1) := by decide +kernel
theorem dX7_paint_48 : decode cX7_paint 48 = .ok (.iconst 1, 1) := by decide +kernel
theorem dX7_paint_49 : decode cX7_paint 49 = .ok (.putfield 110, 3) := by decide +kernel
theorem dX7_paint_52 : decode cX7_paint 52 = .ok (.iload 4, 2) := by decide +kernel
theorem dX7_paint_54 : decode cX7_paint 54 = .ok (.ireturn, 1) := by decide +kernel
set_option maxRecDepth 20000 in
theorem ggX7_colour_X7_isCell : GoodIn wsX7_colour wsX7_isCell := goodIn_r _ [5, 6, 7, 4, 8] (by decide +kernel) (by decide +kernel)
set_option maxRecDepth 20000 in
theorem gX7_colour_X7_isCell : GoodIn wsX7_colour (va_wsS RX7 113 yX7_isCell wsX7_isCell) := goodIn_app (goodIn_of _ (by decide +kernel)) ggX7_colour_X7_isCell
set_option maxRecDepth 20000 in
theorem ggX7_colour_X7_cell : GoodIn wsX7_colour wsX7_cell := goodIn_r _ [11] (by decide +kernel) (by decide +kernel)
set_option maxRecDepth 20000 in
theorem gX7_colour_X7_cell : GoodIn wsX7_colour (va_wsS RX7 117 yX7_cell wsX7_cell) := goodIn_app (goodIn_of _ (by decide +kernel)) ggX7_colour_X7_cell
theorem dX7_colour_0 : decode cX7_colour 0 = .ok (.iload_n 1, 1) := by decide +kernel
theorem dX7_colour_1 : decode cX7_colour 1 = .ok (.iload_n 2, 1) := by decide +kernel
theorem dX7_colour_2 : decode cX7_colour 2 = .ok (.invokestatic 113, 3) := by decide +kernel
theorem dX7_colour_5 : decode cX7_colour 5 = .ok (.ifCond .eq 16, 3) := by decide +kernel
theorem dX7_colour_8 : decode cX7_colour 8 = .ok (.aload_n 0, 1) := by decide +kernel
theorem dX7_colour_9 : decode cX7_colour 9 = .ok (.getfield 14, 3) := by decide +kernel
theorem dX7_colour_12 : decode cX7_colour 12 = .ok (.iload_n 1, 1) := by decide +kernel
theorem dX7_colour_13 : decode cX7_colour 13 = .ok (.iload_n 2, 1) := by decide +kernel
theorem dX7_colour_14 : decode cX7_colour 14 = .ok (.invokestatic 117, 3) := by decide +kernel
theorem dX7_colour_17 : decode cX7_colour 17 = .ok (.iaload, 1) := by decide +kernel
theorem dX7_colour_18 : decode cX7_colour 18 = .ok (.goto 4, 3) := by decide +kernel
theorem dX7_colour_21 : decode cX7_colour 21 = .ok (.iconst (-1), 1) := by decide +kernel
theorem dX7_colour_22 : decode cX7_colour 22 = .ok (.ireturn, 1) := by decide +kernel
set_option maxRecDepth 20000 in
theorem ggX7_told_X7_in : GoodIn wsX7_told wsX7_in := goodIn_r _ [9] (by decide +kernel) (by decide +kernel)
set_option maxRecDepth 20000 in
theorem gX7_told_X7_in : GoodIn wsX7_told (va_wsS RX7 1 yX7_in wsX7_in) := goodIn_app (goodIn_of _ (by decide +kernel)) ggX7_told_X7_in
theorem dX7_told_0 : decode cX7_told 0 = .ok (.iload_n 1, 1) := by decide +kernel
theorem dX7_told_1 : decode cX7_told 1 = .ok (.iconst 0, 1) := by decide +kernel
theorem dX7_told_2 : decode cX7_told 2 = .ok (.aload_n 0, 1) := by decide +kernel
theorem dX7_told_3 : decode cX7_told 3 = .ok (.getfield 81, 3) := by decide +kernel
theorem dX7_told_6 : decode cX7_told 6 = .ok (.iconst 1, 1) := by decide +kernel
theorem dX7_told_7 : decode cX7_told 7 = .ok (.isub, 1) := by decide +kernel
theorem dX7_told_8 : decode cX7_told 8 = .ok (.invokestatic 1, 3) := by decide +kernel
theorem dX7_told_11 : decode cX7_told 11 = .ok (.ifCond .eq 12, 3) := by decide +kernel
theorem dX7_told_14 : decode cX7_told 14 = .ok (.iload_n 2, 1) := by decide +kernel
theorem dX7_told_15 : decode cX7_told 15 = .ok (.iconst 0, 1) := by decide +kernel
theorem dX7_told_16 : decode cX7_told 16 = .ok (.iconst 3, 1) := by decide +kernel
theorem dX7_told_17 : decode cX7_told 17 = .ok (.invokestatic 1, 3) := by decide +kernel
theorem dX7_told_20 : decode cX7_told 20 = .ok (.ifCond .ne 7, 3) := by decide +kernel
theorem dX7_told_23 : decode cX7_told 23 = .ok (.sipush (-1001), 3) := by decide +kernel
theorem dX7_told_26 : decode cX7_told 26 = .ok (.ireturn, 1) := by decide +kernel
theorem dX7_told_27 : decode cX7_told 27 = .ok (.iload_n 2, 1) := by decide +kernel
theorem dX7_told_28 : decode cX7_told 28 = .ok (.ifCond .ne 12, 3) := by decide +kernel
theorem dX7_told_31 : decode cX7_told 31 = .ok (.aload_n 0, 1) := by decide +kernel
theorem dX7_told_32 : decode cX7_told 32 = .ok (.getfield 27, 3) := by decide +kernel
theorem dX7_told_35 : decode cX7_told 35 = .ok (.iload_n 1, 1) := by decide +kernel
theorem dX7_told_36 : decode cX7_told 36 = .ok (.iaload, 1) := by decide +kernel
theorem dX7_told_37 : decode cX7_told 37 = .ok (.goto 37, 3) := by decide +kernel
theorem dX7_told_40 : decode cX7_told 40 = .ok (.iload_n 2, 1) := by decide +kernel
theorem dX7_told_41 : decode cX7_told 41 = .ok (.iconst 1, 1) := by decide +kernel
theorem dX7_told_42 : decode cX7_told 42 = .ok (.if_icmp .ne 12, 3) := by decide +kernel
theorem dX7_told_45 : decode cX7_told 45 = .ok (.aload_n 0, 1) := by decide +kernel
theorem dX7_told_46 : decode cX7_told 46 = .ok (.getfield 30, 3) := by decide +kernel
theorem dX7_told_49 : decode cX7_told 49 = .ok (.iload_n 1, 1) := by decide +kernel
theorem dX7_told_50 : decode cX7_told 50 = .ok (.iaload, 1) := by decide +kernel
theorem dX7_told_51 : decode cX7_told 51 = .ok (.goto 23, 3) := by decide +kernel
theorem dX7_told_54 : decode cX7_told 54 = .ok (.iload_n 2, 1) := by decide +kernel
theorem dX7_told_55 : decode cX7_told 55 = .ok (.iconst 2, 1) := by decide +kernel
theorem dX7_told_56 : decode cX7_told 56 = .ok (.if_icmp .ne 12, 3) := by decide +kernel
theorem dX7_told_59 : decode cX7_told 59 = .ok (.aload_n 0, 1) := by decide +kernel
theorem dX7_told_60 : decode cX7_told 60 = .ok (.getfield 33, 3) := by decide +kernel
theorem dX7_told_63 : decode cX7_told 63 = .ok (.iload_n 1, 1) := by decide +kernel
theorem dX7_told_64 : decode cX7_told 64 = .ok (.iaload, 1) := by decide +kernel
theorem dX7_told_65 : decode cX7_told 65 = .ok (.goto 9, 3) := by decide +kernel
theorem dX7_told_68 : decode cX7_told 68 = .ok (.aload_n 0, 1) := by decide +kernel
theorem dX7_told_69 : decode cX7_told 69 = .ok (.getfield 36, 3) := by decide +kernel
theorem dX7_told_72 : decode cX7_told 72 = .ok (.iload_n 1, 1) := by decide +kernel
theorem dX7_told_73 : decode cX7_told 73 = .ok (.iaload, 1) := by decide +kernel
theorem dX7_told_74 : decode cX7_told 74 = .ok (.ireturn, 1) := by decide +kernel
theorem dX7_dx_0 : decode cX7_dx 0 = .ok (.aload_n 0, 1) := by decide +kernel
theorem dX7_dx_1 : decode cX7_dx 1 = .ok (.getfield 77, 3) := by decide +kernel
theorem dX7_dx_4 : decode cX7_dx 4 = .ok (.ifCond .ne 23, 3) := by decide +kernel
theorem dX7_dx_7 : decode cX7_dx 7 = .ok (.iload_n 1, 1) := by decide +kernel
theorem dX7_dx_8 : decode cX7_dx 8 = .ok (.iconst 1, 1) := by decide +kernel
theorem dX7_dx_9 : decode cX7_dx 9 = .ok (.if_icmp .ne 7, 3) := by decide +kernel
theorem dX7_dx_12 : decode cX7_dx 12 = .ok (.iconst 1, 1) := by decide +kernel
theorem dX7_dx_13 : decode cX7_dx 13 = .ok (.goto 13, 3) := by decide +kernel
theorem dX7_dx_16 : decode cX7_dx 16 = .ok (.iload_n 1, 1) := by decide +kernel
theorem dX7_dx_17 : decode cX7_dx 17 = .ok (.iconst 3, 1) := by decide +kernel
theorem dX7_dx_18 : decode cX7_dx 18 = .ok (.if_icmp .ne 7, 3) := by decide +kernel
theorem dX7_dx_21 : decode cX7_dx 21 = .ok (.iconst (-1), 1) := by decide +kernel
theorem dX7_dx_22 : decode cX7_dx 22 = .ok (.goto 4, 3) := by decide +kernel
theorem dX7_dx_25 : decode cX7_dx 25 = .ok (.iconst 0, 1) := by decide +kernel
theorem dX7_dx_26 : decode cX7_dx 26 = .ok (.ireturn, 1) := by decide +kernel
theorem dX7_dx_27 : decode cX7_dx 27 = .ok (.iload_n 1, 1) := by decide +kernel
theorem dX7_dx_28 : decode cX7_dx 28 = .ok (.ifCond .eq 8, 3) := by decide +kernel
theorem dX7_dx_31 : decode cX7_dx 31 = .ok (.iload_n 1, 1) := by decide +kernel
theorem dX7_dx_32 : decode cX7_dx 32 = .ok (.iconst 5, 1) := by decide +kernel
theorem dX7_dx_33 : decode cX7_dx 33 = .ok (.if_icmp .ne 7, 3) := by decide +kernel
theorem dX7_dx_36 : decode cX7_dx 36 = .ok (.iconst 1, 1) := by decide +kernel
theorem dX7_dx_37 : decode cX7_dx 37 = .ok (.goto 18, 3) := by decide +kernel
theorem dX7_dx_40 : decode cX7_dx 40 = .ok (.iload_n 1, 1) := by decide +kernel
theorem dX7_dx_41 : decode cX7_dx 41 = .ok (.iconst 2, 1) := by decide +kernel
theorem dX7_dx_42 : decode cX7_dx 42 = .ok (.if_icmp .eq 8, 3) := by decide +kernel
theorem dX7_dx_45 : decode cX7_dx 45 = .ok (.iload_n 1, 1) := by decide +kernel
theorem dX7_dx_46 : decode cX7_dx 46 = .ok (.iconst 3, 1) := by decide +kernel
theorem dX7_dx_47 : decode cX7_dx 47 = .ok (.if_icmp .ne 7, 3) := by decide +kernel
theorem dX7_dx_50 : decode cX7_dx 50 = .ok (.iconst (-1), 1) := by decide +kernel
theorem dX7_dx_51 : decode cX7_dx 51 = .ok (.goto 4, 3) := by decide +kernel
theorem dX7_dx_54 : decode cX7_dx 54 = .ok (.iconst 0, 1) := by decide +kernel
theorem dX7_dx_55 : decode cX7_dx 55 = .ok (.ireturn, 1) := by decide +kernel
theorem dX7_dy_0 : decode cX7_dy 0 = .ok (.aload_n 0, 1) := by decide +kernel
theorem dX7_dy_1 : decode cX7_dy 1 = .ok (.getfield 77, 3) := by decide +kernel
theorem dX7_dy_4 : decode cX7_dy 4 = .ok (.ifCond .ne 22, 3) := by decide +kernel
theorem dX7_dy_7 : decode cX7_dy 7 = .ok (.iload_n 1, 1) := by decide +kernel
theorem dX7_dy_8 : decode cX7_dy 8 = .ok (.ifCond .ne 7, 3) := by decide +kernel
theorem dX7_dy_11 : decode cX7_dy 11 = .ok (.iconst 1, 1) := by decide +kernel
theorem dX7_dy_12 : decode cX7_dy 12 = .ok (.goto 13, 3) := by decide +kernel
theorem dX7_dy_15 : decode cX7_dy 15 = .ok (.iload_n 1, 1) := by decide +kernel
theorem dX7_dy_16 : decode cX7_dy 16 = .ok (.iconst 2, 1) := by decide +kernel
theorem dX7_dy_17 : decode cX7_dy 17 = .ok (.if_icmp .ne 7, 3) := by decide +kernel
theorem dX7_dy_20 : decode cX7_dy 20 = .ok (.iconst (-1), 1) := by decide +kernel
theorem dX7_dy_21 : decode cX7_dy 21 = .ok (.goto 4, 3) := by decide +kernel
theorem dX7_dy_24 : decode cX7_dy 24 = .ok (.iconst 0, 1) := by decide +kernel
theorem dX7_dy_25 : decode cX7_dy 25 = .ok (.ireturn, 1) := by decide +kernel
theorem dX7_dy_26 : decode cX7_dy 26 = .ok (.iload_n 1, 1) := by decide +kernel
theorem dX7_dy_27 : decode cX7_dy 27 = .ok (.iconst 1, 1) := by decide +kernel
theorem dX7_dy_28 : decode cX7_dy 28 = .ok (.if_icmp .eq 8, 3) := by decide +kernel
theorem dX7_dy_31 : decode cX7_dy 31 = .ok (.iload_n 1, 1) := by decide +kernel
theorem dX7_dy_32 : decode cX7_dy 32 = .ok (.iconst 2, 1) := by decide +kernel
theorem dX7_dy_33 : decode cX7_dy 33 = .ok (.if_icmp .ne 7, 3) := by decide +kernel
theorem dX7_dy_36 : decode cX7_dy 36 = .ok (.iconst 1, 1) := by decide +kernel
theorem dX7_dy_37 : decode cX7_dy 37 = .ok (.goto 18, 3) := by decide +kernel
theorem dX7_dy_40 : decode cX7_dy 40 = .ok (.iload_n 1, 1) := by decide +kernel
theorem dX7_dy_41 : decode cX7_dy 41 = .ok (.iconst 4, 1) := by decide +kernel
theorem dX7_dy_42 : decode cX7_dy 42 = .ok (.if_icmp .eq 8, 3) := by decide +kernel
theorem dX7_dy_45 : decode cX7_dy 45 = .ok (.iload_n 1, 1) := by decide +kernel
theorem dX7_dy_46 : decode cX7_dy 46 = .ok (.iconst 5, 1) := by decide +kernel
theorem dX7_dy_47 : decode cX7_dy 47 = .ok (.if_icmp .ne 7, 3) := by decide +kernel
theorem dX7_dy_50 : decode cX7_dy 50 = .ok (.iconst (-1), 1) := by decide +kernel
theorem dX7_dy_51 : decode cX7_dy 51 = .ok (.goto 4, 3) := by decide +kernel
theorem dX7_dy_54 : decode cX7_dy 54 = .ok (.iconst 0, 1) := by decide +kernel
theorem dX7_dy_55 : decode cX7_dy 55 = .ok (.ireturn, 1) := by decide +kernel
set_option maxRecDepth 20000 in
theorem ggX7_acts_X7_cell : GoodIn wsX7_acts wsX7_cell := goodIn_r _ [12] (by decide +kernel) (by decide +kernel)
set_option maxRecDepth 20000 in
theorem gX7_acts_X7_cell : GoodIn wsX7_acts (va_wsS RX7 117 yX7_cell wsX7_cell) := goodIn_app (goodIn_of _ (by decide +kernel)) ggX7_acts_X7_cell
set_option maxRecDepth 20000 in
theorem ggX7_acts_X7_directions : GoodIn wsX7_acts wsX7_directions := goodIn_r _ [16, 17, 32, 33, 34, 35, 36, 37, 38, 39, 40, 41, 42, 43, 44, 45, 46, 47, 48, 49, 50, 51, 52, 53, 54, 55, 56, 57, 58, 59, 60, 61, 62, 63, 64] (by decide +kernel) (by decide +kernel)
set_option maxRecDepth 20000 in
theorem gX7_acts_X7_directions : GoodIn wsX7_acts (wsV RX7 87 RX7 yX7_directions wsX7_directions) := goodIn_app (goodIn_of _ (by decide +kernel)) ggX7_acts_X7_directions
set_option maxRecDepth 20000 in
theorem ggX7_acts_X7_dx : GoodIn wsX7_acts wsX7_dx := goodIn_r _ [21, 17, 32, 33, 34, 35, 36, 37, 38, 39, 40, 41, 42, 43, 44, 45, 46, 47, 48, 49, 50, 51, 52, 53, 54, 55, 56, 57, 58, 59, 60, 61, 62, 63, 64] (by decide +kernel) (by decide +kernel)
set_option maxRecDepth 20000 in
theorem gX7_acts_X7_dx : GoodIn wsX7_acts (wsV RX7 120 RX7 yX7_dx wsX7_dx) := goodIn_app (goodIn_of _ (by decide +kernel)) ggX7_acts_X7_dx
set_option maxRecDepth 20000 in
theorem ggX7_acts_X7_dy : GoodIn wsX7_acts wsX7_dy := goodIn_r _ [25, 17, 32, 33, 34, 35, 36, 37, 38, 39, 40, 41, 42, 43, 44, 45, 46, 47, 48, 49, 50, 51, 52, 53, 54, 55, 56, 57, 58, 59, 60, 61, 62, 63, 64] (by decide +kernel) (by decide +kernel)
set_option maxRecDepth 20000 in
theorem gX7_acts_X7_dy : GoodIn wsX7_acts (wsV RX7 123 RX7 yX7_dy wsX7_dy) := goodIn_app (goodIn_of _ (by decide +kernel)) ggX7_acts_X7_dy
set_option maxRecDepth 20000 in
theorem ggX7_acts_X7_isCell : GoodIn wsX7_acts wsX7_isCell := goodIn_r _ [28, 29, 30, 11, 31] (by decide +kernel) (by decide +kernel)
set_option maxRecDepth 20000 in
theorem gX7_acts_X7_isCell : GoodIn wsX7_acts (va_wsS RX7 113 yX7_isCell wsX7_isCell) := goodIn_app (goodIn_of _ (by decide +kernel)) ggX7_acts_X7_isCell
theorem dX7_acts_0 : decode cX7_acts 0 = .ok (.aload_n 0, 1) := by decide +kernel
theorem dX7_acts_1 : decode cX7_acts 1 = .ok (.getfield 27, 3) := by decide +kernel
theorem dX7_acts_4 : decode cX7_acts 4 = .ok (.iload_n 1, 1) := by decide +kernel
theorem dX7_acts_5 : decode cX7_acts 5 = .ok (.iaload, 1) := by decide +kernel
theorem dX7_acts_6 : decode cX7_acts 6 = .ok (.aload_n 0, 1) := by decide +kernel
theorem dX7_acts_7 : decode cX7_acts 7 = .ok (.getfield 30, 3) := by decide +kernel
theorem dX7_acts_10 : decode cX7_acts 10 = .ok (.iload_n 1, 1) := by decide +kernel
theorem dX7_acts_11 : decode cX7_acts 11 = .ok (.iaload, 1) := by decide +kernel
theorem dX7_acts_12 : decode cX7_acts 12 = .ok (.invokestatic 117, 3) := by decide +kernel
theorem dX7_acts_15 : decode cX7_acts 15 = .ok (.istore_n 2, 1) := by decide +kernel
theorem dX7_acts_16 : decode cX7_acts 16 = .ok (.aload_n 0, 1) := by decide +kernel
theorem dX7_acts_17 : decode cX7_acts 17 = .ok (.getfield 14, 3) := by decide +kernel
theorem dX7_acts_20 : decode cX7_acts 20 = .ok (.iload_n 2, 1) := by decide +kernel
theorem dX7_acts_21 : decode cX7_acts 21 = .ok (.iaload, 1) := by decide +kernel
theorem dX7_acts_22 : decode cX7_acts 22 = .ok (.istore_n 3, 1) := by decide +kernel
theorem dX7_acts_23 : decode cX7_acts 23 = .ok (.aload_n 0, 1) := by decide +kernel
theorem dX7_acts_24 : decode cX7_acts 24 = .ok (.getfield 33, 3) := by decide +kernel
theorem dX7_acts_27 : decode cX7_acts 27 = .ok (.iload_n 1, 1) := by decide +kernel
theorem dX7_acts_28 : decode cX7_acts 28 = .ok (.iaload, 1) := by decide +kernel
theorem dX7_acts_29 : decode cX7_acts 29 = .ok (.aload_n 0, 1) := by decide +kernel
theorem dX7_acts_30 : decode cX7_acts 30 = .ok (.getfield 21, 3) := by decide +kernel
theorem dX7_acts_33 : decode cX7_acts 33 = .ok (.bipush 12, 2) := by decide +kernel
theorem dX7_acts_35 : decode cX7_acts 35 = .ok (.aload_n 0, 1) := by decide +kernel
theorem dX7_acts_36 : decode cX7_acts 36 = .ok (.getfield 36, 3) := by decide +kernel
theorem dX7_acts_39 : decode cX7_acts 39 = .ok (.iload_n 1, 1) := by decide +kernel
theorem dX7_acts_40 : decode cX7_acts 40 = .ok (.iaload, 1) := by decide +kernel
theorem dX7_acts_41 : decode cX7_acts 41 = .ok (.imul, 1) := by decide +kernel
theorem dX7_acts_42 : decode cX7_acts 42 = .ok (.iload_n 3, 1) := by decide +kernel
theorem dX7_acts_43 : decode cX7_acts 43 = .ok (.iadd, 1) := by decide +kernel
theorem dX7_acts_44 : decode cX7_acts 44 = .ok (.iaload, 1) := by decide +kernel
theorem dX7_acts_45 : decode cX7_acts 45 = .ok (.iadd, 1) := by decide +kernel
theorem dX7_acts_46 : decode cX7_acts 46 = .ok (.aload_n 0, 1) := by decide +kernel
theorem dX7_acts_47 : decode cX7_acts 47 = .ok (.invokevirtual 87, 3) := by decide +kernel
theorem dX7_acts_50 : decode cX7_acts 50 = .ok (.irem, 1) := by decide +kernel
theorem dX7_acts_51 : decode cX7_acts 51 = .ok (.istore 4, 2) := by decide +kernel
theorem dX7_acts_53 : decode cX7_acts 53 = .ok (.aload_n 0, 1) := by decide +kernel
theorem dX7_acts_54 : decode cX7_acts 54 = .ok (.getfield 27, 3) := by decide +kernel
theorem dX7_acts_57 : decode cX7_acts 57 = .ok (.iload_n 1, 1) := by decide +kernel
theorem dX7_acts_58 : decode cX7_acts 58 = .ok (.iaload, 1) := by decide +kernel
theorem dX7_acts_59 : decode cX7_acts 59 = .ok (.aload_n 0, 1) := by decide +kernel
theorem dX7_acts_60 : decode cX7_acts 60 = .ok (.iload 4, 2) := by decide +kernel
theorem dX7_acts_62 : decode cX7_acts 62 = .ok (.invokevirtual 120, 3) := by decide +kernel
theorem dX7_acts_65 : decode cX7_acts 65 = .ok (.iadd, 1) := by decide +kernel
theorem dX7_acts_66 : decode cX7_acts 66 = .ok (.aload_n 0, 1) := by decide +kernel
theorem dX7_acts_67 : decode cX7_acts 67 = .ok (.getfield 30, 3) := by decide +kernel
theorem dX7_acts_70 : decode cX7_acts 70 = .ok (.iload_n 1, 1) := by decide +kernel
theorem dX7_acts_71 : decode cX7_acts 71 = .ok (.iaload, 1) := by decide +kernel
theorem dX7_acts_72 : decode cX7_acts 72 = .ok (.aload_n 0, 1) := by decide +kernel
theorem dX7_acts_73 : decode cX7_acts 73 = .ok (.iload 4, 2) := by decide +kernel
theorem dX7_acts_75 : decode cX7_acts 75 = .ok (.invokevirtual 123, 3) := by decide +kernel
theorem dX7_acts_78 : decode cX7_acts 78 = .ok (.iadd, 1) := by decide +kernel
theorem dX7_acts_79 : decode cX7_acts 79 = .ok (.invokestatic 113, 3) := by decide +kernel
theorem dX7_acts_82 : decode cX7_acts 82 = .ok (.ifCond .ne 5, 3) := by decide +kernel
theorem dX7_acts_85 : decode cX7_acts 85 = .ok (.iconst 0, 1) := by decide +kernel
theorem dX7_acts_86 : decode cX7_acts 86 = .ok (.ireturn, 1) := by decide +kernel
theorem dX7_acts_87 : decode cX7_acts 87 = .ok (.aload_n 0, 1) := by decide +kernel
theorem dX7_acts_88 : decode cX7_acts 88 = .ok (.getfield 39, 3) := by decide +kernel
theorem dX7_acts_91 : decode cX7_acts 91 = .ok (.iload_n 1, 1) := by decide +kernel
theorem dX7_acts_92 : decode cX7_acts 92 = .ok (.iload_n 2, 1) := by decide +kernel
theorem dX7_acts_93 : decode cX7_acts 93 = .ok (.iastore, 1) := by decide +kernel
theorem dX7_acts_94 : decode cX7_acts 94 = .ok (.aload_n 0, 1) := by decide +kernel
theorem dX7_acts_95 : decode cX7_acts 95 = .ok (.getfield 33, 3) := by decide +kernel
theorem dX7_acts_98 : decode cX7_acts 98 = .ok (.iload_n 1, 1) := by decide +kernel
theorem dX7_acts_99 : decode cX7_acts 99 = .ok (.iload 4, 2) := by decide +kernel
theorem dX7_acts_101 : decode cX7_acts 101 = .ok (.iastore, 1) := by decide +kernel
theorem dX7_acts_102 : decode cX7_acts 102 = .ok (.aload_n 0, 1) := by decide +kernel
theorem dX7_acts_103 : decode cX7_acts 103 = .ok (.getfield 14, 3) := by decide +kernel
theorem dX7_acts_106 : decode cX7_acts 106 = .ok (.iload_n 2, 1) := by decide +kernel
theorem dX7_acts_107 : decode cX7_acts 107 = .ok (.iload_n 3, 1) := by decide +kernel
theorem dX7_acts_108 : decode cX7_acts 108 = .ok (.iconst 1, 1) := by decide +kernel
theorem dX7_acts_109 : decode cX7_acts 109 = .ok (.iadd, 1) := by decide +kernel
theorem dX7_acts_110 : decode cX7_acts 110 = .ok (.aload_n 0, 1) := by decide +kernel
theorem dX7_acts_111 : decode cX7_acts 111 = .ok (.getfield 84, 3) := by decide +kernel
theorem dX7_acts_114 : decode cX7_acts 114 = .ok (.irem, 1) := by decide +kernel
theorem dX7_acts_115 : decode cX7_acts 115 = .ok (.iastore, 1) := by decide +kernel
theorem dX7_acts_116 : decode cX7_acts 116 = .ok (.aload_n 0, 1) := by decide +kernel
theorem dX7_acts_117 : decode cX7_acts 117 = .ok (.getfield 27, 3) := by decide +kernel
theorem dX7_acts_120 : decode cX7_acts 120 = .ok (.iload_n 1, 1) := by decide +kernel
theorem dX7_acts_121 : decode cX7_acts 121 = .ok (.dup2, 1) := by decide +kernel
theorem dX7_acts_122 : decode cX7_acts 122 = .ok (.iaload, 1) := by decide +kernel
theorem dX7_acts_123 : decode cX7_acts 123 = .ok (.aload_n 0, 1) := by decide +kernel
theorem dX7_acts_124 : decode cX7_acts 124 = .ok (.iload 4, 2) := by decide +kernel
theorem dX7_acts_126 : decode cX7_acts 126 = .ok (.invokevirtual 120, 3) := by decide +kernel
theorem dX7_acts_129 : decode cX7_acts 129 = .ok (.iadd, 1) := by decide +kernel
theorem dX7_acts_130 : decode cX7_acts 130 = .ok (.iastore, 1) := by decide +kernel
theorem dX7_acts_131 : decode cX7_acts 131 = .ok (.aload_n 0, 1) := by decide +kernel
theorem dX7_acts_132 : decode cX7_acts 132 = .ok (.getfield 30, 3) := by decide +kernel
theorem dX7_acts_135 : decode cX7_acts 135 = .ok (.iload_n 1, 1) := by decide +kernel
theorem dX7_acts_136 : decode cX7_acts 136 = .ok (.dup2, 1) := by decide +kernel
theorem dX7_acts_137 : decode cX7_acts 137 = .ok (.iaload, 1) := by decide +kernel
theorem dX7_acts_138 : decode cX7_acts 138 = .ok (.aload_n 0, 1) := by decide +kernel
theorem dX7_acts_139 : decode cX7_acts 139 = .ok (.iload 4, 2) := by decide +kernel
theorem dX7_acts_141 : decode cX7_acts 141 = .ok (.invokevirtual 123, 3) := by decide +kernel
theorem dX7_acts_144 : decode cX7_acts 144 = .ok (.iadd, 1) := by decide +kernel
theorem dX7_acts_145 : decode cX7_acts 145 = .ok (.iastore, 1) := by decide +kernel
theorem dX7_acts_146 : decode cX7_acts 146 = .ok (.iconst 1, 1) := by decide +kernel
theorem dX7_acts_147 : decode cX7_acts 147 = .ok (.ireturn, 1) := by decide +kernel
set_option maxRecDepth 20000 in
theorem ggX7_actsBack_X7_dx : GoodIn wsX7_actsBack wsX7_dx := goodIn_r _ [13, 14, 32, 33, 34, 35, 36, 37, 38, 39, 40, 41, 42, 43, 44, 45, 46, 47, 48, 49, 50, 51, 52, 53, 54, 55, 56, 57, 58, 59, 60, 61, 62, 63, 64] (by decide +kernel) (by decide +kernel)
set_option maxRecDepth 20000 in
theorem gX7_actsBack_X7_dx : GoodIn wsX7_actsBack (wsV RX7 120 RX7 yX7_dx wsX7_dx) := goodIn_app (goodIn_of _ (by decide +kernel)) ggX7_actsBack_X7_dx
set_option maxRecDepth 20000 in
theorem ggX7_actsBack_X7_dy : GoodIn wsX7_actsBack wsX7_dy := goodIn_r _ [18, 14, 32, 33, 34, 35, 36, 37, 38, 39, 40, 41, 42, 43, 44, 45, 46, 47, 48, 49, 50, 51, 52, 53, 54, 55, 56, 57, 58, 59, 60, 61, 62, 63, 64] (by decide +kernel) (by decide +kernel)
set_option maxRecDepth 20000 in
theorem gX7_actsBack_X7_dy : GoodIn wsX7_actsBack (wsV RX7 123 RX7 yX7_dy wsX7_dy) := goodIn_app (goodIn_of _ (by decide +kernel)) ggX7_actsBack_X7_dy
set_option maxRecDepth 20000 in
theorem ggX7_actsBack_X7_isCell : GoodIn wsX7_actsBack wsX7_isCell := goodIn_r _ [21, 22, 23, 12, 24] (by decide +kernel) (by decide +kernel)
set_option maxRecDepth 20000 in
theorem gX7_actsBack_X7_isCell : GoodIn wsX7_actsBack (va_wsS RX7 113 yX7_isCell wsX7_isCell) := goodIn_app (goodIn_of _ (by decide +kernel)) ggX7_actsBack_X7_isCell
set_option maxRecDepth 20000 in
theorem ggX7_actsBack_X7_cell : GoodIn wsX7_actsBack wsX7_cell := goodIn_r _ [27] (by decide +kernel) (by decide +kernel)
set_option maxRecDepth 20000 in
theorem gX7_actsBack_X7_cell : GoodIn wsX7_actsBack (va_wsS RX7 117 yX7_cell wsX7_cell) := goodIn_app (goodIn_of _ (by decide +kernel)) ggX7_actsBack_X7_cell
set_option maxRecDepth 20000 in
theorem ggX7_actsBack_X7_directions : GoodIn wsX7_actsBack wsX7_directions := goodIn_r _ [31, 14, 32, 33, 34, 35, 36, 37, 38, 39, 40, 41, 42, 43, 44, 45, 46, 47, 48, 49, 50, 51, 52, 53, 54, 55, 56, 57, 58, 59, 60, 61, 62, 63, 64] (by decide +kernel) (by decide +kernel)
set_option maxRecDepth 20000 in
theorem gX7_actsBack_X7_directions : GoodIn wsX7_actsBack (wsV RX7 87 RX7 yX7_directions wsX7_directions) := goodIn_app (goodIn_of _ (by decide +kernel)) ggX7_actsBack_X7_directions
theorem dX7_actsBack_0 : decode cX7_actsBack 0 = .ok (.aload_n 0, 1) := by decide +kernel
