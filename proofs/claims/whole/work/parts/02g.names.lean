theorem dX7_actsBack_1 : decode cX7_actsBack 1 = .ok (.getfield 33, 3) := by decide +kernel
theorem dX7_actsBack_4 : decode cX7_actsBack 4 = .ok (.iload_n 1, 1) := by decide +kernel
theorem dX7_actsBack_5 : decode cX7_actsBack 5 = .ok (.iaload, 1) := by decide +kernel
theorem dX7_actsBack_6 : decode cX7_actsBack 6 = .ok (.istore_n 2, 1) := by decide +kernel
theorem dX7_actsBack_7 : decode cX7_actsBack 7 = .ok (.aload_n 0, 1) := by decide +kernel
theorem dX7_actsBack_8 : decode cX7_actsBack 8 = .ok (.getfield 27, 3) := by decide +kernel
theorem dX7_actsBack_11 : decode cX7_actsBack 11 = .ok (.iload_n 1, 1) := by decide +kernel
theorem dX7_actsBack_12 : decode cX7_actsBack 12 = .ok (.iaload, 1) := by decide +kernel
theorem dX7_actsBack_13 : decode cX7_actsBack 13 = .ok (.aload_n 0, 1) := by decide +kernel
theorem dX7_actsBack_14 : decode cX7_actsBack 14 = .ok (.iload_n 2, 1) := by decide +kernel
theorem dX7_actsBack_15 : decode cX7_actsBack 15 = .ok (.invokevirtual 120, 3) := by decide +kernel
theorem dX7_actsBack_18 : decode cX7_actsBack 18 = .ok (.isub, 1) := by decide +kernel
theorem dX7_actsBack_19 : decode cX7_actsBack 19 = .ok (.istore_n 3, 1) := by decide +kernel
theorem dX7_actsBack_20 : decode cX7_actsBack 20 = .ok (.aload_n 0, 1) := by decide +kernel
theorem dX7_actsBack_21 : decode cX7_actsBack 21 = .ok (.getfield 30, 3) := by decide +kernel
theorem dX7_actsBack_24 : decode cX7_actsBack 24 = .ok (.iload_n 1, 1) := by decide +kernel
theorem dX7_actsBack_25 : decode cX7_actsBack 25 = .ok (.iaload, 1) := by decide +kernel
theorem dX7_actsBack_26 : decode cX7_actsBack 26 = .ok (.aload_n 0, 1) := by decide +kernel
theorem dX7_actsBack_27 : decode cX7_actsBack 27 = .ok (.iload_n 2, 1) := by decide +kernel
theorem dX7_actsBack_28 : decode cX7_actsBack 28 = .ok (.invokevirtual 123, 3) := by decide +kernel
theorem dX7_actsBack_31 : decode cX7_actsBack 31 = .ok (.isub, 1) := by decide +kernel
theorem dX7_actsBack_32 : decode cX7_actsBack 32 = .ok (.istore 4, 2) := by decide +kernel
theorem dX7_actsBack_34 : decode cX7_actsBack 34 = .ok (.iload_n 3, 1) := by decide +kernel
theorem dX7_actsBack_35 : decode cX7_actsBack 35 = .ok (.iload 4, 2) := by decide +kernel
theorem dX7_actsBack_37 : decode cX7_actsBack 37 = .ok (.invokestatic 113, 3) := by decide +kernel
theorem dX7_actsBack_40 : decode cX7_actsBack 40 = .ok (.ifCond .ne 5, 3) := by decide +kernel
theorem dX7_actsBack_43 : decode cX7_actsBack 43 = .ok (.iconst 0, 1) := by decide +kernel
theorem dX7_actsBack_44 : decode cX7_actsBack 44 = .ok (.ireturn, 1) := by decide +kernel
theorem dX7_actsBack_45 : decode cX7_actsBack 45 = .ok (.iload_n 3, 1) := by decide +kernel
theorem dX7_actsBack_46 : decode cX7_actsBack 46 = .ok (.iload 4, 2) := by decide +kernel
theorem dX7_actsBack_48 : decode cX7_actsBack 48 = .ok (.invokestatic 117, 3) := by decide +kernel
theorem dX7_actsBack_51 : decode cX7_actsBack 51 = .ok (.istore 5, 2) := by decide +kernel
theorem dX7_actsBack_53 : decode cX7_actsBack 53 = .ok (.aload_n 0, 1) := by decide +kernel
theorem dX7_actsBack_54 : decode cX7_actsBack 54 = .ok (.getfield 14, 3) := by decide +kernel
theorem dX7_actsBack_57 : decode cX7_actsBack 57 = .ok (.iload 5, 2) := by decide +kernel
theorem dX7_actsBack_59 : decode cX7_actsBack 59 = .ok (.iaload, 1) := by decide +kernel
theorem dX7_actsBack_60 : decode cX7_actsBack 60 = .ok (.aload_n 0, 1) := by decide +kernel
theorem dX7_actsBack_61 : decode cX7_actsBack 61 = .ok (.getfield 84, 3) := by decide +kernel
theorem dX7_actsBack_64 : decode cX7_actsBack 64 = .ok (.iadd, 1) := by decide +kernel
theorem dX7_actsBack_65 : decode cX7_actsBack 65 = .ok (.iconst 1, 1) := by decide +kernel
theorem dX7_actsBack_66 : decode cX7_actsBack 66 = .ok (.isub, 1) := by decide +kernel
theorem dX7_actsBack_67 : decode cX7_actsBack 67 = .ok (.aload_n 0, 1) := by decide +kernel
theorem dX7_actsBack_68 : decode cX7_actsBack 68 = .ok (.getfield 84, 3) := by decide +kernel
theorem dX7_actsBack_71 : decode cX7_actsBack 71 = .ok (.irem, 1) := by decide +kernel
theorem dX7_actsBack_72 : decode cX7_actsBack 72 = .ok (.istore 6, 2) := by decide +kernel
theorem dX7_actsBack_74 : decode cX7_actsBack 74 = .ok (.aload_n 0, 1) := by decide +kernel
theorem dX7_actsBack_75 : decode cX7_actsBack 75 = .ok (.getfield 39, 3) := by decide +kernel
theorem dX7_actsBack_78 : decode cX7_actsBack 78 = .ok (.iload_n 1, 1) := by decide +kernel
theorem dX7_actsBack_79 : decode cX7_actsBack 79 = .ok (.iload 5, 2) := by decide +kernel
theorem dX7_actsBack_81 : decode cX7_actsBack 81 = .ok (.iastore, 1) := by decide +kernel
theorem dX7_actsBack_82 : decode cX7_actsBack 82 = .ok (.aload_n 0, 1) := by decide +kernel
theorem dX7_actsBack_83 : decode cX7_actsBack 83 = .ok (.getfield 14, 3) := by decide +kernel
theorem dX7_actsBack_86 : decode cX7_actsBack 86 = .ok (.iload 5, 2) := by decide +kernel
theorem dX7_actsBack_88 : decode cX7_actsBack 88 = .ok (.iload 6, 2) := by decide +kernel
theorem dX7_actsBack_90 : decode cX7_actsBack 90 = .ok (.iastore, 1) := by decide +kernel
theorem dX7_actsBack_91 : decode cX7_actsBack 91 = .ok (.aload_n 0, 1) := by decide +kernel
theorem dX7_actsBack_92 : decode cX7_actsBack 92 = .ok (.getfield 27, 3) := by decide +kernel
theorem dX7_actsBack_95 : decode cX7_actsBack 95 = .ok (.iload_n 1, 1) := by decide +kernel
theorem dX7_actsBack_96 : decode cX7_actsBack 96 = .ok (.iload_n 3, 1) := by decide +kernel
theorem dX7_actsBack_97 : decode cX7_actsBack 97 = .ok (.iastore, 1) := by decide +kernel
theorem dX7_actsBack_98 : decode cX7_actsBack 98 = .ok (.aload_n 0, 1) := by decide +kernel
theorem dX7_actsBack_99 : decode cX7_actsBack 99 = .ok (.getfield 30, 3) := by decide +kernel
theorem dX7_actsBack_102 : decode cX7_actsBack 102 = .ok (.iload_n 1, 1) := by decide +kernel
theorem dX7_actsBack_103 : decode cX7_actsBack 103 = .ok (.iload 4, 2) := by decide +kernel
theorem dX7_actsBack_105 : decode cX7_actsBack 105 = .ok (.iastore, 1) := by decide +kernel
theorem dX7_actsBack_106 : decode cX7_actsBack 106 = .ok (.aload_n 0, 1) := by decide +kernel
theorem dX7_actsBack_107 : decode cX7_actsBack 107 = .ok (.getfield 33, 3) := by decide +kernel
theorem dX7_actsBack_110 : decode cX7_actsBack 110 = .ok (.iload_n 1, 1) := by decide +kernel
theorem dX7_actsBack_111 : decode cX7_actsBack 111 = .ok (.iload_n 2, 1) := by decide +kernel
theorem dX7_actsBack_112 : decode cX7_actsBack 112 = .ok (.aload_n 0, 1) := by decide +kernel
theorem dX7_actsBack_113 : decode cX7_actsBack 113 = .ok (.invokevirtual 87, 3) := by decide +kernel
theorem dX7_actsBack_116 : decode cX7_actsBack 116 = .ok (.iadd, 1) := by decide +kernel
theorem dX7_actsBack_117 : decode cX7_actsBack 117 = .ok (.aload_n 0, 1) := by decide +kernel
theorem dX7_actsBack_118 : decode cX7_actsBack 118 = .ok (.getfield 21, 3) := by decide +kernel
theorem dX7_actsBack_121 : decode cX7_actsBack 121 = .ok (.bipush 12, 2) := by decide +kernel
theorem dX7_actsBack_123 : decode cX7_actsBack 123 = .ok (.aload_n 0, 1) := by decide +kernel
theorem dX7_actsBack_124 : decode cX7_actsBack 124 = .ok (.getfield 36, 3) := by decide +kernel
theorem dX7_actsBack_127 : decode cX7_actsBack 127 = .ok (.iload_n 1, 1) := by decide +kernel
theorem dX7_actsBack_128 : decode cX7_actsBack 128 = .ok (.iaload, 1) := by decide +kernel
theorem dX7_actsBack_129 : decode cX7_actsBack 129 = .ok (.imul, 1) := by decide +kernel
theorem dX7_actsBack_130 : decode cX7_actsBack 130 = .ok (.iload 6, 2) := by decide +kernel
theorem dX7_actsBack_132 : decode cX7_actsBack 132 = .ok (.iadd, 1) := by decide +kernel
theorem dX7_actsBack_133 : decode cX7_actsBack 133 = .ok (.iaload, 1) := by decide +kernel
theorem dX7_actsBack_134 : decode cX7_actsBack 134 = .ok (.isub, 1) := by decide +kernel
theorem dX7_actsBack_135 : decode cX7_actsBack 135 = .ok (.aload_n 0, 1) := by decide +kernel
theorem dX7_actsBack_136 : decode cX7_actsBack 136 = .ok (.invokevirtual 87, 3) := by decide +kernel
theorem dX7_actsBack_139 : decode cX7_actsBack 139 = .ok (.irem, 1) := by decide +kernel
theorem dX7_actsBack_140 : decode cX7_actsBack 140 = .ok (.iastore, 1) := by decide +kernel
theorem dX7_actsBack_141 : decode cX7_actsBack 141 = .ok (.iconst 1, 1) := by decide +kernel
theorem dX7_actsBack_142 : decode cX7_actsBack 142 = .ok (.ireturn, 1) := by decide +kernel
theorem dX7_meet_0 : decode cX7_meet 0 = .ok (.iconst 0, 1) := by decide +kernel
theorem dX7_meet_1 : decode cX7_meet 1 = .ok (.istore_n 1, 1) := by decide +kernel
theorem dX7_meet_2 : decode cX7_meet 2 = .ok (.iload_n 1, 1) := by decide +kernel
theorem dX7_meet_3 : decode cX7_meet 3 = .ok (.aload_n 0, 1) := by decide +kernel
theorem dX7_meet_4 : decode cX7_meet 4 = .ok (.getfield 81, 3) := by decide +kernel
theorem dX7_meet_7 : decode cX7_meet 7 = .ok (.if_icmp .ge 190, 3) := by decide +kernel
theorem dX7_meet_10 : decode cX7_meet 10 = .ok (.iconst 0, 1) := by decide +kernel
theorem dX7_meet_11 : decode cX7_meet 11 = .ok (.istore_n 2, 1) := by decide +kernel
theorem dX7_meet_12 : decode cX7_meet 12 = .ok (.iconst 1, 1) := by decide +kernel
theorem dX7_meet_13 : decode cX7_meet 13 = .ok (.istore_n 3, 1) := by decide +kernel
theorem dX7_meet_14 : decode cX7_meet 14 = .ok (.iconst 0, 1) := by decide +kernel
theorem dX7_meet_15 : decode cX7_meet 15 = .ok (.istore 4, 2) := by decide +kernel
theorem dX7_meet_17 : decode cX7_meet 17 = .ok (.iload 4, 2) := by decide +kernel
theorem dX7_meet_19 : decode cX7_meet 19 = .ok (.aload_n 0, 1) := by decide +kernel
theorem dX7_meet_20 : decode cX7_meet 20 = .ok (.getfield 81, 3) := by decide +kernel
theorem dX7_meet_23 : decode cX7_meet 23 = .ok (.if_icmp .ge 85, 3) := by decide +kernel
theorem dX7_meet_26 : decode cX7_meet 26 = .ok (.aload_n 0, 1) := by decide +kernel
theorem dX7_meet_27 : decode cX7_meet 27 = .ok (.getfield 27, 3) := by decide +kernel
theorem dX7_meet_30 : decode cX7_meet 30 = .ok (.iload 4, 2) := by decide +kernel
theorem dX7_meet_32 : decode cX7_meet 32 = .ok (.iaload, 1) := by decide +kernel
theorem dX7_meet_33 : decode cX7_meet 33 = .ok (.aload_n 0, 1) := by decide +kernel
theorem dX7_meet_34 : decode cX7_meet 34 = .ok (.getfield 27, 3) := by decide +kernel
theorem dX7_meet_37 : decode cX7_meet 37 = .ok (.iload_n 1, 1) := by decide +kernel
theorem dX7_meet_38 : decode cX7_meet 38 = .ok (.iaload, 1) := by decide +kernel
theorem dX7_meet_39 : decode cX7_meet 39 = .ok (.if_icmp .ne 23, 3) := by decide +kernel
theorem dX7_meet_42 : decode cX7_meet 42 = .ok (.aload_n 0, 1) := by decide +kernel
theorem dX7_meet_43 : decode cX7_meet 43 = .ok (.getfield 30, 3) := by decide +kernel
theorem dX7_meet_46 : decode cX7_meet 46 = .ok (.iload 4, 2) := by decide +kernel
theorem dX7_meet_48 : decode cX7_meet 48 = .ok (.iaload, 1) := by decide +kernel
theorem dX7_meet_49 : decode cX7_meet 49 = .ok (.aload_n 0, 1) := by decide +kernel
theorem dX7_meet_50 : decode cX7_meet 50 = .ok (.getfield 30, 3) := by decide +kernel
theorem dX7_meet_53 : decode cX7_meet 53 = .ok (.iload_n 1, 1) := by decide +kernel
theorem dX7_meet_54 : decode cX7_meet 54 = .ok (.iaload, 1) := by decide +kernel
theorem dX7_meet_55 : decode cX7_meet 55 = .ok (.if_icmp .ne 7, 3) := by decide +kernel
theorem dX7_meet_58 : decode cX7_meet 58 = .ok (.iconst 1, 1) := by decide +kernel
theorem dX7_meet_59 : decode cX7_meet 59 = .ok (.goto 4, 3) := by decide +kernel
theorem dX7_meet_62 : decode cX7_meet 62 = .ok (.iconst 0, 1) := by decide +kernel
theorem dX7_meet_63 : decode cX7_meet 63 = .ok (.istore 5, 2) := by decide +kernel
theorem dX7_meet_65 : decode cX7_meet 65 = .ok (.iload_n 2, 1) := by decide +kernel
theorem dX7_meet_66 : decode cX7_meet 66 = .ok (.iload 5, 2) := by decide +kernel
theorem dX7_meet_68 : decode cX7_meet 68 = .ok (.ifCond .eq 10, 3) := by decide +kernel
theorem dX7_meet_71 : decode cX7_meet 71 = .ok (.iconst 1, 1) := by decide +kernel
theorem dX7_meet_72 : decode cX7_meet 72 = .ok (.iload 4, 2) := by decide +kernel
theorem dX7_meet_74 : decode cX7_meet 74 = .ok (.ishl, 1) := by decide +kernel
theorem dX7_meet_75 : decode cX7_meet 75 = .ok (.goto 4, 3) := by decide +kernel
theorem dX7_meet_78 : decode cX7_meet 78 = .ok (.iconst 0, 1) := by decide +kernel
theorem dX7_meet_79 : decode cX7_meet 79 = .ok (.ior, 1) := by decide +kernel
theorem dX7_meet_80 : decode cX7_meet 80 = .ok (.istore_n 2, 1) := by decide +kernel
theorem dX7_meet_81 : decode cX7_meet 81 = .ok (.iload_n 3, 1) := by decide +kernel
theorem dX7_meet_82 : decode cX7_meet 82 = .ok (.ifCond .eq 18, 3) := by decide +kernel
theorem dX7_meet_85 : decode cX7_meet 85 = .ok (.iload 5, 2) := by decide +kernel
theorem dX7_meet_87 : decode cX7_meet 87 = .ok (.ifCond .eq 9, 3) := by decide +kernel
theorem dX7_meet_90 : decode cX7_meet 90 = .ok (.iload 4, 2) := by decide +kernel
theorem dX7_meet_92 : decode cX7_meet 92 = .ok (.iload_n 1, 1) := by decide +kernel
theorem dX7_meet_93 : decode cX7_meet 93 = .ok (.if_icmp .lt 7, 3) := by decide +kernel
theorem dX7_meet_96 : decode cX7_meet 96 = .ok (.iconst 1, 1) := by decide +kernel
theorem dX7_meet_97 : decode cX7_meet 97 = .ok (.goto 4, 3) := by decide +kernel
theorem dX7_meet_100 : decode cX7_meet 100 = .ok (.iconst 0, 1) := by decide +kernel
theorem dX7_meet_101 : decode cX7_meet 101 = .ok (.istore_n 3, 1) := by decide +kernel
theorem dX7_meet_102 : decode cX7_meet 102 = .ok (.iinc 4 1, 3) := by decide +kernel
theorem dX7_meet_105 : decode cX7_meet 105 = .ok (.goto (-88), 3) := by decide +kernel
theorem dX7_meet_108 : decode cX7_meet 108 = .ok (.iload_n 3, 1) := by decide +kernel
theorem dX7_meet_109 : decode cX7_meet 109 = .ok (.ifCond .eq 82, 3) := by decide +kernel
theorem dX7_meet_112 : decode cX7_meet 112 = .ok (.iload_n 2, 1) := by decide +kernel
theorem dX7_meet_113 : decode cX7_meet 113 = .ok (.iconst 1, 1) := by decide +kernel
theorem dX7_meet_114 : decode cX7_meet 114 = .ok (.iload_n 1, 1) := by decide +kernel
theorem dX7_meet_115 : decode cX7_meet 115 = .ok (.ishl, 1) := by decide +kernel
theorem dX7_meet_116 : decode cX7_meet 116 = .ok (.if_icmp .eq 75, 3) := by decide +kernel
theorem dX7_meet_119 : decode cX7_meet 119 = .ok (.aload_n 0, 1) := by decide +kernel
theorem dX7_meet_120 : decode cX7_meet 120 = .ok (.getfield 94, 3) := by decide +kernel
theorem dX7_meet_123 : decode cX7_meet 123 = .ok (.bipush 60, 2) := by decide +kernel
theorem dX7_meet_125 : decode cX7_meet 125 = .ok (.if_icmp .ge 56, 3) := by decide +kernel
theorem dX7_meet_128 : decode cX7_meet 128 = .ok (.aload_n 0, 1) := by decide +kernel
theorem dX7_meet_129 : decode cX7_meet 129 = .ok (.getfield 42, 3) := by decide +kernel
theorem dX7_meet_132 : decode cX7_meet 132 = .ok (.aload_n 0, 1) := by decide +kernel
theorem dX7_meet_133 : decode cX7_meet 133 = .ok (.getfield 94, 3) := by decide +kernel
theorem dX7_meet_136 : decode cX7_meet 136 = .ok (.aload_n 0, 1) := by decide +kernel
theorem dX7_meet_137 : decode cX7_meet 137 = .ok (.getfield 91, 3) := by decide +kernel
theorem dX7_meet_140 : decode cX7_meet 140 = .ok (.iastore, 1) := by decide +kernel
theorem dX7_meet_141 : decode cX7_meet 141 = .ok (.aload_n 0, 1) := by decide +kernel
theorem dX7_meet_142 : decode cX7_meet 142 = .ok (.getfield 45, 3) := by decide +kernel
theorem dX7_meet_145 : decode cX7_meet 145 = .ok (.aload_n 0, 1) := by decide +kernel
theorem dX7_meet_146 : decode cX7_meet 146 = .ok (.getfield 94, 3) := by decide +kernel
theorem dX7_meet_149 : decode cX7_meet 149 = .ok (.aload_n 0, 1) := by decide +kernel
theorem dX7_meet_150 : decode cX7_meet 150 = .ok (.getfield 27, 3) := by decide +kernel
theorem dX7_meet_153 : decode cX7_meet 153 = .ok (.iload_n 1, 1) := by decide +kernel
theorem dX7_meet_154 : decode cX7_meet 154 = .ok (.iaload, 1) := by decide +kernel
theorem dX7_meet_155 : decode cX7_meet 155 = .ok (.iastore, 1) := by decide +kernel
theorem dX7_meet_156 : decode cX7_meet 156 = .ok (.aload_n 0, 1) := by decide +kernel
theorem dX7_meet_157 : decode cX7_meet 157 = .ok (.getfield 48, 3) := by decide +kernel
theorem dX7_meet_160 : decode cX7_meet 160 = .ok (.aload_n 0, 1) := by decide +kernel
theorem dX7_meet_161 : decode cX7_meet 161 = .ok (.getfield 94, 3) := by decide +kernel
theorem dX7_meet_164 : decode cX7_meet 164 = .ok (.aload_n 0, 1) := by decide +kernel
theorem dX7_meet_165 : decode cX7_meet 165 = .ok (.getfield 30, 3) := by decide +kernel
theorem dX7_meet_168 : decode cX7_meet 168 = .ok (.iload_n 1, 1) := by decide +kernel
theorem dX7_meet_169 : decode cX7_meet 169 = .ok (.iaload, 1) := by decide +kernel
theorem dX7_meet_170 : decode cX7_meet 170 = .ok (.iastore, 1) := by decide +kernel
theorem dX7_meet_171 : decode cX7_meet 171 = .ok (.aload_n 0, 1) := by decide +kernel
theorem dX7_meet_172 : decode cX7_meet 172 = .ok (.getfield 51, 3) := by decide +kernel
theorem dX7_meet_175 : decode cX7_meet 175 = .ok (.aload_n 0, 1) := by decide +kernel
theorem dX7_meet_176 : decode cX7_meet 176 = .ok (.getfield 94, 3) := by decide +kernel
theorem dX7_meet_179 : decode cX7_meet 179 = .ok (.iload_n 2, 1) := by decide +kernel
theorem dX7_meet_180 : decode cX7_meet 180 = .ok (.iastore, 1) := by decide +kernel
theorem dX7_meet_181 : decode cX7_meet 181 = .ok (.aload_n 0, 1) := by decide +kernel
theorem dX7_meet_182 : decode cX7_meet 182 = .ok (.dup, 1) := by decide +kernel
theorem dX7_meet_183 : decode cX7_meet 183 = .ok (.getfield 94, 3) := by decide +kernel
theorem dX7_meet_186 : decode cX7_meet 186 = .ok (.iconst 1, 1) := by decide +kernel
theorem dX7_meet_187 : decode cX7_meet 187 = .ok (.iadd, 1) := by decide +kernel
theorem dX7_meet_188 : decode cX7_meet 188 = .ok (.putfield 94, 3) := by decide +kernel
theorem dX7_meet_191 : decode cX7_meet 191 = .ok (.iinc 1 1, 3) := by decide +kernel
theorem dX7_meet_194 : decode cX7_meet 194 = .ok (.goto (-192), 3) := by decide +kernel
theorem dX7_meet_197 : decode cX7_meet 197 = .ok (.return_, 1) := by decide +kernel
set_option maxRecDepth 20000 in
theorem ggX7_steps_X7_acts : GoodIn wsX7_steps wsX7_acts := goodIn_r _ [10, 11, 12, 13, 14, 15, 16, 3, 17, 18, 19, 9, 20, 21, 22, 23, 24, 25, 26, 27, 28, 29, 30, 31, 32, 33, 34, 35, 36, 37, 38, 39, 53, 54, 55, 56, 57, 58, 59, 60, 61, 62, 63, 64, 65, 66, 67, 68, 69, 70, 71, 72, 73, 74, 75, 76, 77, 78, 79, 80, 81, 82, 83, 84, 85] (by decide +kernel) (by decide +kernel)
set_option maxRecDepth 20000 in
theorem gX7_steps_X7_acts : GoodIn wsX7_steps (wsV RX7 126 RX7 yX7_acts wsX7_acts) := goodIn_app (goodIn_of _ (by decide +kernel)) ggX7_steps_X7_acts
set_option maxRecDepth 20000 in
theorem ggX7_steps_X7_actsBack : GoodIn wsX7_steps wsX7_actsBack := goodIn_r _ [43, 14, 11, 12, 13, 17, 3, 15, 16, 26, 27, 28, 9, 29, 25, 30, 31, 32, 33, 34, 35, 36, 37, 38, 39, 18, 19, 20, 21, 22, 23, 24, 53, 54, 55, 56, 57, 58, 59, 60, 61, 62, 63, 64, 65, 66, 67, 68, 69, 70, 71, 72, 73, 74, 75, 76, 77, 78, 79, 80, 81, 82, 83, 84, 85] (by decide +kernel) (by decide +kernel)
set_option maxRecDepth 20000 in
theorem gX7_steps_X7_actsBack : GoodIn wsX7_steps (wsV RX7 130 RX7 yX7_actsBack wsX7_actsBack) := goodIn_app (goodIn_of _ (by decide +kernel)) ggX7_steps_X7_actsBack
set_option maxRecDepth 20000 in
theorem ggX7_steps_X7_meet : GoodIn wsX7_steps wsX7_meet := goodIn_r _ [47, 1, 11, 12, 48, 49, 5, 50, 51, 52, 53, 54, 55, 56, 57, 58, 59, 60, 61, 62, 63, 64, 65, 66, 67, 68, 69, 70, 71, 72, 73, 74, 75, 76, 77, 78, 79, 80, 81, 82, 83, 84, 85] (by decide +kernel) (by decide +kernel)
set_option maxRecDepth 20000 in
theorem gX7_steps_X7_meet : GoodIn wsX7_steps (wsV RX7 133 RX7 yX7_meet wsX7_meet) := goodIn_app (goodIn_of _ (by decide +kernel)) ggX7_steps_X7_meet
theorem dX7_steps_0 : decode cX7_steps 0 = .ok (.iconst 0, 1) := by decide +kernel
theorem dX7_steps_1 : decode cX7_steps 1 = .ok (.istore_n 1, 1) := by decide +kernel
theorem dX7_steps_2 : decode cX7_steps 2 = .ok (.iload_n 1, 1) := by decide +kernel
theorem dX7_steps_3 : decode cX7_steps 3 = .ok (.aload_n 0, 1) := by decide +kernel
theorem dX7_steps_4 : decode cX7_steps 4 = .ok (.getfield 81, 3) := by decide +kernel
theorem dX7_steps_7 : decode cX7_steps 7 = .ok (.if_icmp .ge 17, 3) := by decide +kernel
theorem dX7_steps_10 : decode cX7_steps 10 = .ok (.aload_n 0, 1) := by decide +kernel
theorem dX7_steps_11 : decode cX7_steps 11 = .ok (.iload_n 1, 1) := by decide +kernel
theorem dX7_steps_12 : decode cX7_steps 12 = .ok (.invokevirtual 126, 3) := by decide +kernel
theorem dX7_steps_15 : decode cX7_steps 15 = .ok (.ifCond .eq 9, 3) := by decide +kernel
theorem dX7_steps_18 : decode cX7_steps 18 = .ok (.iinc 1 1, 3) := by decide +kernel
theorem dX7_steps_21 : decode cX7_steps 21 = .ok (.goto (-19), 3) := by decide +kernel
theorem dX7_steps_24 : decode cX7_steps 24 = .ok (.iload_n 1, 1) := by decide +kernel
theorem dX7_steps_25 : decode cX7_steps 25 = .ok (.aload_n 0, 1) := by decide +kernel
theorem dX7_steps_26 : decode cX7_steps 26 = .ok (.getfield 81, 3) := by decide +kernel
theorem dX7_steps_29 : decode cX7_steps 29 = .ok (.if_icmp .ge 25, 3) := by decide +kernel
theorem dX7_steps_32 : decode cX7_steps 32 = .ok (.iload_n 1, 1) := by decide +kernel
theorem dX7_steps_33 : decode cX7_steps 33 = .ok (.iconst 1, 1) := by decide +kernel
theorem dX7_steps_34 : decode cX7_steps 34 = .ok (.isub, 1) := by decide +kernel
theorem dX7_steps_35 : decode cX7_steps 35 = .ok (.istore_n 2, 1) := by decide +kernel
theorem dX7_steps_36 : decode cX7_steps 36 = .ok (.iload_n 2, 1) := by decide +kernel
theorem dX7_steps_37 : decode cX7_steps 37 = .ok (.ifCond .lt 15, 3) := by decide +kernel
theorem dX7_steps_40 : decode cX7_steps 40 = .ok (.aload_n 0, 1) := by decide +kernel
theorem dX7_steps_41 : decode cX7_steps 41 = .ok (.iload_n 2, 1) := by decide +kernel
theorem dX7_steps_42 : decode cX7_steps 42 = .ok (.invokevirtual 130, 3) := by decide +kernel
theorem dX7_steps_45 : decode cX7_steps 45 = .ok (.istore_n 3, 1) := by decide +kernel
theorem dX7_steps_46 : decode cX7_steps 46 = .ok (.iinc 2 (-1), 3) := by decide +kernel
theorem dX7_steps_49 : decode cX7_steps 49 = .ok (.goto (-13), 3) := by decide +kernel
theorem dX7_steps_52 : decode cX7_steps 52 = .ok (.iconst 0, 1) := by decide +kernel
theorem dX7_steps_53 : decode cX7_steps 53 = .ok (.ireturn, 1) := by decide +kernel
theorem dX7_steps_54 : decode cX7_steps 54 = .ok (.iconst 0, 1) := by decide +kernel
theorem dX7_steps_55 : decode cX7_steps 55 = .ok (.istore_n 2, 1) := by decide +kernel
theorem dX7_steps_56 : decode cX7_steps 56 = .ok (.iload_n 2, 1) := by decide +kernel
theorem dX7_steps_57 : decode cX7_steps 57 = .ok (.aload_n 0, 1) := by decide +kernel
theorem dX7_steps_58 : decode cX7_steps 58 = .ok (.getfield 81, 3) := by decide +kernel
theorem dX7_steps_61 : decode cX7_steps 61 = .ok (.if_icmp .ge 36, 3) := by decide +kernel
theorem dX7_steps_64 : decode cX7_steps 64 = .ok (.aload_n 0, 1) := by decide +kernel
theorem dX7_steps_65 : decode cX7_steps 65 = .ok (.getfield 18, 3) := by decide +kernel
theorem dX7_steps_68 : decode cX7_steps 68 = .ok (.aload_n 0, 1) := by decide +kernel
theorem dX7_steps_69 : decode cX7_steps 69 = .ok (.getfield 39, 3) := by decide +kernel
theorem dX7_steps_72 : decode cX7_steps 72 = .ok (.iload_n 2, 1) := by decide +kernel
theorem dX7_steps_73 : decode cX7_steps 73 = .ok (.iaload, 1) := by decide +kernel
theorem dX7_steps_74 : decode cX7_steps 74 = .ok (.dup2, 1) := by decide +kernel
theorem dX7_steps_75 : decode cX7_steps 75 = .ok (.iaload, 1) := by decide +kernel
theorem dX7_steps_76 : decode cX7_steps 76 = .ok (.iconst 1, 1) := by decide +kernel
theorem dX7_steps_77 : decode cX7_steps 77 = .ok (.iadd, 1) := by decide +kernel
theorem dX7_steps_78 : decode cX7_steps 78 = .ok (.iastore, 1) := by decide +kernel
theorem dX7_steps_79 : decode cX7_steps 79 = .ok (.aload_n 0, 1) := by decide +kernel
theorem dX7_steps_80 : decode cX7_steps 80 = .ok (.getfield 54, 3) := by decide +kernel
theorem dX7_steps_83 : decode cX7_steps 83 = .ok (.aload_n 0, 1) := by decide +kernel
theorem dX7_steps_84 : decode cX7_steps 84 = .ok (.getfield 39, 3) := by decide +kernel
theorem dX7_steps_87 : decode cX7_steps 87 = .ok (.iload_n 2, 1) := by decide +kernel
theorem dX7_steps_88 : decode cX7_steps 88 = .ok (.iaload, 1) := by decide +kernel
theorem dX7_steps_89 : decode cX7_steps 89 = .ok (.iconst 1, 1) := by decide +kernel
theorem dX7_steps_90 : decode cX7_steps 90 = .ok (.bastore, 1) := by decide +kernel
theorem dX7_steps_91 : decode cX7_steps 91 = .ok (.iinc 2 1, 3) := by decide +kernel
theorem dX7_steps_94 : decode cX7_steps 94 = .ok (.goto (-38), 3) := by decide +kernel
theorem dX7_steps_97 : decode cX7_steps 97 = .ok (.aload_n 0, 1) := by decide +kernel
theorem dX7_steps_98 : decode cX7_steps 98 = .ok (.dup, 1) := by decide +kernel
theorem dX7_steps_99 : decode cX7_steps 99 = .ok (.getfield 91, 3) := by decide +kernel
theorem dX7_steps_102 : decode cX7_steps 102 = .ok (.iconst 1, 1) := by decide +kernel
theorem dX7_steps_103 : decode cX7_steps 103 = .ok (.iadd, 1) := by decide +kernel
theorem dX7_steps_104 : decode cX7_steps 104 = .ok (.putfield 91, 3) := by decide +kernel
theorem dX7_steps_107 : decode cX7_steps 107 = .ok (.aload_n 0, 1) := by decide +kernel
theorem dX7_steps_108 : decode cX7_steps 108 = .ok (.invokevirtual 133, 3) := by decide +kernel
theorem dX7_steps_111 : decode cX7_steps 111 = .ok (.iconst 1, 1) := by decide +kernel
theorem dX7_steps_112 : decode cX7_steps 112 = .ok (.ireturn, 1) := by decide +kernel
set_option maxRecDepth 20000 in
theorem ggX7_stepsBack_X7_actsBack : GoodIn wsX7_stepsBack wsX7_actsBack := goodIn_r _ [10, 11, 12, 13, 14, 15, 3, 16, 17, 18, 19, 20, 9, 21, 22, 23, 24, 25, 26, 27, 28, 29, 30, 31, 32, 33, 34, 35, 36, 37, 38, 39, 44, 45, 46, 47, 48, 49, 50, 51, 52, 53, 54, 55, 56, 57, 58, 59, 60, 61, 62, 63, 64, 65, 66, 67, 68, 69, 70, 71, 72, 73, 74, 75, 76] (by decide +kernel) (by decide +kernel)
set_option maxRecDepth 20000 in
theorem gX7_stepsBack_X7_actsBack : GoodIn wsX7_stepsBack (wsV RX7 130 RX7 yX7_actsBack wsX7_actsBack) := goodIn_app (goodIn_of _ (by decide +kernel)) ggX7_stepsBack_X7_actsBack
set_option maxRecDepth 20000 in
theorem ggX7_stepsBack_X7_acts : GoodIn wsX7_stepsBack wsX7_acts := goodIn_r _ [43, 12, 13, 14, 11, 16, 17, 3, 15, 33, 34, 9, 35, 36, 37, 38, 39, 22, 18, 19, 20, 21, 23, 24, 25, 26, 27, 28, 29, 30, 31, 32, 44, 45, 46, 47, 48, 49, 50, 51, 52, 53, 54, 55, 56, 57, 58, 59, 60, 61, 62, 63, 64, 65, 66, 67, 68, 69, 70, 71, 72, 73, 74, 75, 76] (by decide +kernel) (by decide +kernel)
set_option maxRecDepth 20000 in
theorem gX7_stepsBack_X7_acts : GoodIn wsX7_stepsBack (wsV RX7 126 RX7 yX7_acts wsX7_acts) := goodIn_app (goodIn_of _ (by decide +kernel)) ggX7_stepsBack_X7_acts
theorem dX7_stepsBack_0 : decode cX7_stepsBack 0 = .ok (.aload_n 0, 1) := by decide +kernel
theorem dX7_stepsBack_1 : decode cX7_stepsBack 1 = .ok (.getfield 81, 3) := by decide +kernel
theorem dX7_stepsBack_4 : decode cX7_stepsBack 4 = .ok (.iconst 1, 1) := by decide +kernel
theorem dX7_stepsBack_5 : decode cX7_stepsBack 5 = .ok (.isub, 1) := by decide +kernel
theorem dX7_stepsBack_6 : decode cX7_stepsBack 6 = .ok (.istore_n 1, 1) := by decide +kernel
theorem dX7_stepsBack_7 : decode cX7_stepsBack 7 = .ok (.iload_n 1, 1) := by decide +kernel
theorem dX7_stepsBack_8 : decode cX7_stepsBack 8 = .ok (.ifCond .lt 17, 3) := by decide +kernel
theorem dX7_stepsBack_11 : decode cX7_stepsBack 11 = .ok (.aload_n 0, 1) := by decide +kernel
theorem dX7_stepsBack_12 : decode cX7_stepsBack 12 = .ok (.iload_n 1, 1) := by decide +kernel
theorem dX7_stepsBack_13 : decode cX7_stepsBack 13 = .ok (.invokevirtual 130, 3) := by decide +kernel
theorem dX7_stepsBack_16 : decode cX7_stepsBack 16 = .ok (.ifCond .eq 9, 3) := by decide +kernel
theorem dX7_stepsBack_19 : decode cX7_stepsBack 19 = .ok (.iinc 1 (-1), 3) := by decide +kernel
theorem dX7_stepsBack_22 : decode cX7_stepsBack 22 = .ok (.goto (-15), 3) := by decide +kernel
theorem dX7_stepsBack_25 : decode cX7_stepsBack 25 = .ok (.iload_n 1, 1) := by decide +kernel
theorem dX7_stepsBack_26 : decode cX7_stepsBack 26 = .ok (.ifCond .lt 29, 3) := by decide +kernel
theorem dX7_stepsBack_29 : decode cX7_stepsBack 29 = .ok (.iload_n 1, 1) := by decide +kernel
theorem dX7_stepsBack_30 : decode cX7_stepsBack 30 = .ok (.iconst 1, 1) := by decide +kernel
theorem dX7_stepsBack_31 : decode cX7_stepsBack 31 = .ok (.iadd, 1) := by decide +kernel
theorem dX7_stepsBack_32 : decode cX7_stepsBack 32 = .ok (.istore_n 2, 1) := by decide +kernel
theorem dX7_stepsBack_33 : decode cX7_stepsBack 33 = .ok (.iload_n 2, 1) := by decide +kernel
theorem dX7_stepsBack_34 : decode cX7_stepsBack 34 = .ok (.aload_n 0, 1) := by decide +kernel
theorem dX7_stepsBack_35 : decode cX7_stepsBack 35 = .ok (.getfield 81, 3) := by decide +kernel
theorem dX7_stepsBack_38 : decode cX7_stepsBack 38 = .ok (.if_icmp .ge 15, 3) := by decide +kernel
theorem dX7_stepsBack_41 : decode cX7_stepsBack 41 = .ok (.aload_n 0, 1) := by decide +kernel
theorem dX7_stepsBack_42 : decode cX7_stepsBack 42 = .ok (.iload_n 2, 1) := by decide +kernel
theorem dX7_stepsBack_43 : decode cX7_stepsBack 43 = .ok (.invokevirtual 126, 3) := by decide +kernel
theorem dX7_stepsBack_46 : decode cX7_stepsBack 46 = .ok (.istore_n 3, 1) := by decide +kernel
theorem dX7_stepsBack_47 : decode cX7_stepsBack 47 = .ok (.iinc 2 1, 3) := by decide +kernel
theorem dX7_stepsBack_50 : decode cX7_stepsBack 50 = .ok (.goto (-17), 3) := by decide +kernel
theorem dX7_stepsBack_53 : decode cX7_stepsBack 53 = .ok (.iconst 0, 1) := by decide +kernel
theorem dX7_stepsBack_54 : decode cX7_stepsBack 54 = .ok (.ireturn, 1) := by decide +kernel
theorem dX7_stepsBack_55 : decode cX7_stepsBack 55 = .ok (.iconst 0, 1) := by decide +kernel
theorem dX7_stepsBack_56 : decode cX7_stepsBack 56 = .ok (.istore_n 2, 1) := by decide +kernel
theorem dX7_stepsBack_57 : decode cX7_stepsBack 57 = .ok (.iload_n 2, 1) := by decide +kernel
theorem dX7_stepsBack_58 : decode cX7_stepsBack 58 = .ok (.aload_n 0, 1) := by decide +kernel
theorem dX7_stepsBack_59 : decode cX7_stepsBack 59 = .ok (.getfield 81, 3) := by decide +kernel
theorem dX7_stepsBack_62 : decode cX7_stepsBack 62 = .ok (.if_icmp .ge 24, 3) := by decide +kernel
theorem dX7_stepsBack_65 : decode cX7_stepsBack 65 = .ok (.aload_n 0, 1) := by decide +kernel
theorem dX7_stepsBack_66 : decode cX7_stepsBack 66 = .ok (.getfield 18, 3) := by decide +kernel
theorem dX7_stepsBack_69 : decode cX7_stepsBack 69 = .ok (.aload_n 0, 1) := by decide +kernel
theorem dX7_stepsBack_70 : decode cX7_stepsBack 70 = .ok (.getfield 39, 3) := by decide +kernel
theorem dX7_stepsBack_73 : decode cX7_stepsBack 73 = .ok (.iload_n 2, 1) := by decide +kernel
theorem dX7_stepsBack_74 : decode cX7_stepsBack 74 = .ok (.iaload, 1) := by decide +kernel
theorem dX7_stepsBack_75 : decode cX7_stepsBack 75 = .ok (.dup2, 1) := by decide +kernel
theorem dX7_stepsBack_76 : decode cX7_stepsBack 76 = .ok (.iaload, 1) := by decide +kernel
theorem dX7_stepsBack_77 : decode cX7_stepsBack 77 = .ok (.iconst 1, 1) := by decide +kernel
theorem dX7_stepsBack_78 : decode cX7_stepsBack 78 = .ok (.isub, 1) := by decide +kernel
theorem dX7_stepsBack_79 : decode cX7_stepsBack 79 = .ok (.iastore, 1) := by decide +kernel
theorem dX7_stepsBack_80 : decode cX7_stepsBack 80 = .ok (.iinc 2 1, 3) := by decide +kernel
theorem dX7_stepsBack_83 : decode cX7_stepsBack 83 = .ok (.goto (-26), 3) := by decide +kernel
theorem dX7_stepsBack_86 : decode cX7_stepsBack 86 = .ok (.aload_n 0, 1) := by decide +kernel
theorem dX7_stepsBack_87 : decode cX7_stepsBack 87 = .ok (.dup, 1) := by decide +kernel
theorem dX7_stepsBack_88 : decode cX7_stepsBack 88 = .ok (.getfield 91, 3) := by decide +kernel
theorem dX7_stepsBack_91 : decode cX7_stepsBack 91 = .ok (.iconst 1, 1) := by decide +kernel
theorem dX7_stepsBack_92 : decode cX7_stepsBack 92 = .ok (.isub, 1) := by decide +kernel
theorem dX7_stepsBack_93 : decode cX7_stepsBack 93 = .ok (.putfield 91, 3) := by decide +kernel
theorem dX7_stepsBack_96 : decode cX7_stepsBack 96 = .ok (.aload_n 0, 1) := by decide +kernel
theorem dX7_stepsBack_97 : decode cX7_stepsBack 97 = .ok (.iconst 1, 1) := by decide +kernel
theorem dX7_stepsBack_98 : decode cX7_stepsBack 98 = .ok (.putfield 136, 3) := by decide +kernel
theorem dX7_stepsBack_101 : decode cX7_stepsBack 101 = .ok (.iconst 1, 1) := by decide +kernel
theorem dX7_stepsBack_102 : decode cX7_stepsBack 102 = .ok (.ireturn, 1) := by decide +kernel
set_option maxRecDepth 20000 in
theorem ggX7_run_X7_in : GoodIn wsX7_run wsX7_in := goodIn_r _ [4] (by decide +kernel) (by decide +kernel)
set_option maxRecDepth 20000 in
theorem gX7_run_X7_in : GoodIn wsX7_run (va_wsS RX7 1 yX7_in wsX7_in) := goodIn_app (goodIn_of _ (by decide +kernel)) ggX7_run_X7_in
set_option maxRecDepth 20000 in
theorem ggX7_run_X7_steps : GoodIn wsX7_run wsX7_steps := goodIn_r _ [8, 9, 10, 11, 12, 13, 14, 15, 16, 3, 17, 18, 19, 20, 21, 22, 23, 24, 25, 26, 27, 28, 29, 30, 31, 32, 33, 34, 35, 36, 37, 38, 39, 40, 41, 42, 43, 1, 2, 4, 44, 45, 46, 47, 48, 49, 50, 51, 52, 53, 54, 55, 56, 62, 63, 64, 65, 66, 67, 68, 69, 70, 71, 72, 73, 74, 75, 76, 77, 78, 79, 80, 81, 82, 83, 84, 85, 86, 87, 88, 89, 90, 91, 92, 93, 94] (by decide +kernel) (by decide +kernel)
set_option maxRecDepth 20000 in
theorem gX7_run_X7_steps : GoodIn wsX7_run (wsV RX7 139 RX7 yX7_steps wsX7_steps) := goodIn_app (goodIn_of _ (by decide +kernel)) ggX7_run_X7_steps
set_option maxRecDepth 20000 in
theorem ggX7_run_X7_stepsBack : GoodIn wsX7_run wsX7_stepsBack := goodIn_r _ [60, 9, 10, 11, 13, 61, 44, 45, 46, 3, 47, 21, 18, 19, 20, 24, 22, 23, 33, 34, 35, 36, 32, 37, 38, 39, 40, 41, 42, 43, 1, 2, 4, 25, 26, 27, 28, 29, 30, 31, 14, 15, 16, 17, 62, 63, 64, 65, 66, 67, 68, 69, 70, 71, 72, 73, 74, 75, 76, 77, 78, 79, 80, 81, 82, 83, 84, 85, 86, 87, 88, 89, 90, 91, 92, 93, 94] (by decide +kernel) (by decide +kernel)
set_option maxRecDepth 20000 in
theorem gX7_run_X7_stepsBack : GoodIn wsX7_run (wsV RX7 143 RX7 yX7_stepsBack wsX7_stepsBack) := goodIn_app (goodIn_of _ (by decide +kernel)) ggX7_run_X7_stepsBack
theorem dX7_run_0 : decode cX7_run 0 = .ok (.iload_n 1, 1) := by decide +kernel
theorem dX7_run_1 : decode cX7_run 1 = .ok (.ifCond .eq 16, 3) := by decide +kernel
theorem dX7_run_4 : decode cX7_run 4 = .ok (.iload_n 1, 1) := by decide +kernel
theorem dX7_run_5 : decode cX7_run 5 = .ok (.sipush (-2000), 3) := by decide +kernel
theorem dX7_run_8 : decode cX7_run 8 = .ok (.sipush 2000, 3) := by decide +kernel
theorem dX7_run_11 : decode cX7_run 11 = .ok (.invokestatic 1, 3) := by decide +kernel
theorem dX7_run_14 : decode cX7_run 14 = .ok (.ifCond .ne 5, 3) := by decide +kernel
theorem dX7_run_17 : decode cX7_run 17 = .ok (.iconst (-1), 1) := by decide +kernel
theorem dX7_run_18 : decode cX7_run 18 = .ok (.ireturn, 1) := by decide +kernel
theorem dX7_run_19 : decode cX7_run 19 = .ok (.iload_n 1, 1) := by decide +kernel
theorem dX7_run_20 : decode cX7_run 20 = .ok (.ifCond .ge 9, 3) := by decide +kernel
theorem dX7_run_23 : decode cX7_run 23 = .ok (.iconst 0, 1) := by decide +kernel
theorem dX7_run_24 : decode cX7_run 24 = .ok (.iload_n 1, 1) := by decide +kernel
theorem dX7_run_25 : decode cX7_run 25 = .ok (.isub, 1) := by decide +kernel
theorem dX7_run_26 : decode cX7_run 26 = .ok (.goto 4, 3) := by decide +kernel
theorem dX7_run_29 : decode cX7_run 29 = .ok (.iload_n 1, 1) := by decide +kernel
theorem dX7_run_30 : decode cX7_run 30 = .ok (.istore_n 2, 1) := by decide +kernel
theorem dX7_run_31 : decode cX7_run 31 = .ok (.iconst 0, 1) := by decide +kernel
theorem dX7_run_32 : decode cX7_run 32 = .ok (.istore_n 3, 1) := by decide +kernel
theorem dX7_run_33 : decode cX7_run 33 = .ok (.iconst 1, 1) := by decide +kernel
theorem dX7_run_34 : decode cX7_run 34 = .ok (.istore 4, 2) := by decide +kernel
theorem dX7_run_36 : decode cX7_run 36 = .ok (.iload 4, 2) := by decide +kernel
theorem dX7_run_38 : decode cX7_run 38 = .ok (.ifCond .eq 41, 3) := by decide +kernel
theorem dX7_run_41 : decode cX7_run 41 = .ok (.iload_n 3, 1) := by decide +kernel
theorem dX7_run_42 : decode cX7_run 42 = .ok (.iload_n 2, 1) := by decide +kernel
theorem dX7_run_43 : decode cX7_run 43 = .ok (.if_icmp .ge 36, 3) := by decide +kernel
theorem dX7_run_46 : decode cX7_run 46 = .ok (.iload_n 1, 1) := by decide +kernel
theorem dX7_run_47 : decode cX7_run 47 = .ok (.ifCond .le 10, 3) := by decide +kernel
theorem dX7_run_50 : decode cX7_run 50 = .ok (.aload_n 0, 1) := by decide +kernel
theorem dX7_run_51 : decode cX7_run 51 = .ok (.invokevirtual 139, 3) := by decide +kernel
theorem dX7_run_54 : decode cX7_run 54 = .ok (.goto 7, 3) := by decide +kernel
theorem dX7_run_57 : decode cX7_run 57 = .ok (.aload_n 0, 1) := by decide +kernel
theorem dX7_run_58 : decode cX7_run 58 = .ok (.invokevirtual 143, 3) := by decide +kernel
theorem dX7_run_61 : decode cX7_run 61 = .ok (.istore 4, 2) := by decide +kernel
theorem dX7_run_63 : decode cX7_run 63 = .ok (.iload_n 3, 1) := by decide +kernel
theorem dX7_run_64 : decode cX7_run 64 = .ok (.iload 4, 2) := by decide +kernel
theorem dX7_run_66 : decode cX7_run 66 = .ok (.ifCond .eq 7, 3) := by decide +kernel
theorem dX7_run_69 : decode cX7_run 69 = .ok (.iconst 1, 1) := by decide +kernel
theorem dX7_run_70 : decode cX7_run 70 = .ok (.goto 4, 3) := by decide +kernel
theorem dX7_run_73 : decode cX7_run 73 = .ok (.iconst 0, 1) := by decide +kernel
theorem dX7_run_74 : decode cX7_run 74 = .ok (.iadd, 1) := by decide +kernel
theorem dX7_run_75 : decode cX7_run 75 = .ok (.istore_n 3, 1) := by decide +kernel
theorem dX7_run_76 : decode cX7_run 76 = .ok (.goto (-40), 3) := by decide +kernel
theorem dX7_run_79 : decode cX7_run 79 = .ok (.iload_n 3, 1) := by decide +kernel
theorem dX7_run_80 : decode cX7_run 80 = .ok (.ifCond .ne 8, 3) := by decide +kernel
theorem dX7_run_83 : decode cX7_run 83 = .ok (.bipush (-4), 2) := by decide +kernel
theorem dX7_run_85 : decode cX7_run 85 = .ok (.goto 4, 3) := by decide +kernel
theorem dX7_run_88 : decode cX7_run 88 = .ok (.iload_n 3, 1) := by decide +kernel
theorem dX7_run_89 : decode cX7_run 89 = .ok (.ireturn, 1) := by decide +kernel
theorem dX7_time_0 : decode cX7_time 0 = .ok (.aload_n 0, 1) := by decide +kernel
theorem dX7_time_1 : decode cX7_time 1 = .ok (.getfield 91, 3) := by decide +kernel
theorem dX7_time_4 : decode cX7_time 4 = .ok (.ireturn, 1) := by decide +kernel
set_option maxRecDepth 20000 in
theorem ggX7_meeting_X7_in : GoodIn wsX7_meeting wsX7_in := goodIn_r _ [10] (by decide +kernel) (by decide +kernel)
set_option maxRecDepth 20000 in
theorem gX7_meeting_X7_in : GoodIn wsX7_meeting (va_wsS RX7 1 yX7_in wsX7_in) := goodIn_app (goodIn_of _ (by decide +kernel)) ggX7_meeting_X7_in
theorem dX7_meeting_0 : decode cX7_meeting 0 = .ok (.iload_n 1, 1) := by decide +kernel
theorem dX7_meeting_1 : decode cX7_meeting 1 = .ok (.iconst 0, 1) := by decide +kernel
theorem dX7_meeting_2 : decode cX7_meeting 2 = .ok (.aload_n 0, 1) := by decide +kernel
theorem dX7_meeting_3 : decode cX7_meeting 3 = .ok (.getfield 94, 3) := by decide +kernel
theorem dX7_meeting_6 : decode cX7_meeting 6 = .ok (.bipush 60, 2) := by decide +kernel
theorem dX7_meeting_8 : decode cX7_meeting 8 = .ok (.if_icmp .ge 10, 3) := by decide +kernel
theorem dX7_meeting_11 : decode cX7_meeting 11 = .ok (.aload_n 0, 1) := by decide +kernel
theorem dX7_meeting_12 : decode cX7_meeting 12 = .ok (.getfield 94, 3) := by decide +kernel
theorem dX7_meeting_15 : decode cX7_meeting 15 = .ok (.goto 5, 3) := by decide +kernel
theorem dX7_meeting_18 : decode cX7_meeting 18 = .ok (.bipush 60, 2) := by decide +kernel
theorem dX7_meeting_20 : decode cX7_meeting 20 = .ok (.iconst 1, 1) := by decide +kernel
theorem dX7_meeting_21 : decode cX7_meeting 21 = .ok (.isub, 1) := by decide +kernel
theorem dX7_meeting_22 : decode cX7_meeting 22 = .ok (.invokestatic 1, 3) := by decide +kernel
theorem dX7_meeting_25 : decode cX7_meeting 25 = .ok (.ifCond .eq 12, 3) := by decide +kernel
theorem dX7_meeting_28 : decode cX7_meeting 28 = .ok (.iload_n 2, 1) := by decide +kernel
theorem dX7_meeting_29 : decode cX7_meeting 29 = .ok (.iconst 0, 1) := by decide +kernel
theorem dX7_meeting_30 : decode cX7_meeting 30 = .ok (.iconst 3, 1) := by decide +kernel
theorem dX7_meeting_31 : decode cX7_meeting 31 = .ok (.invokestatic 1, 3) := by decide +kernel
theorem dX7_meeting_34 : decode cX7_meeting 34 = .ok (.ifCond .ne 6, 3) := by decide +kernel
theorem dX7_meeting_37 : decode cX7_meeting 37 = .ok (.ldc 146, 2) := by decide +kernel
theorem dX7_meeting_39 : decode cX7_meeting 39 = .ok (.ireturn, 1) := by decide +kernel
theorem dX7_meeting_40 : decode cX7_meeting 40 = .ok (.iload_n 2, 1) := by decide +kernel
theorem dX7_meeting_41 : decode cX7_meeting 41 = .ok (.ifCond .ne 12, 3) := by decide +kernel
theorem dX7_meeting_44 : decode cX7_meeting 44 = .ok (.aload_n 0, 1) := by decide +kernel
theorem dX7_meeting_45 : decode cX7_meeting 45 = .ok (.getfield 42, 3) := by decide +kernel
theorem dX7_meeting_48 : decode cX7_meeting 48 = .ok (.iload_n 1, 1) := by decide +kernel
theorem dX7_meeting_49 : decode cX7_meeting 49 = .ok (.iaload, 1) := by decide +kernel
theorem dX7_meeting_50 : decode cX7_meeting 50 = .ok (.goto 37, 3) := by decide +kernel
theorem dX7_meeting_53 : decode cX7_meeting 53 = .ok (.iload_n 2, 1) := by decide +kernel
theorem dX7_meeting_54 : decode cX7_meeting 54 = .ok (.iconst 1, 1) := by decide +kernel
theorem dX7_meeting_55 : decode cX7_meeting 55 = .ok (.if_icmp .ne 12, 3) := by decide +kernel
theorem dX7_meeting_58 : decode cX7_meeting 58 = .ok (.aload_n 0, 1) := by decide +kernel
theorem dX7_meeting_59 : decode cX7_meeting 59 = .ok (.getfield 45, 3) := by decide +kernel
theorem dX7_meeting_62 : decode cX7_meeting 62 = .ok (.iload_n 1, 1) := by decide +kernel
theorem dX7_meeting_63 : decode cX7_meeting 63 = .ok (.iaload, 1) := by decide +kernel
theorem dX7_meeting_64 : decode cX7_meeting 64 = .ok (.goto 23, 3) := by decide +kernel
theorem dX7_meeting_67 : decode cX7_meeting 67 = .ok (.iload_n 2, 1) := by decide +kernel
theorem dX7_meeting_68 : decode cX7_meeting 68 = .ok (.iconst 2, 1) := by decide +kernel
theorem dX7_meeting_69 : decode cX7_meeting 69 = .ok (.if_icmp .ne 12, 3) := by decide +kernel
theorem dX7_meeting_72 : decode cX7_meeting 72 = .ok (.aload_n 0, 1) := by decide +kernel
theorem dX7_meeting_73 : decode cX7_meeting 73 = .ok (.getfield 48, 3) := by decide +kernel
theorem dX7_meeting_76 : decode cX7_meeting 76 = .ok (.iload_n 1, 1) := by decide +kernel
theorem dX7_meeting_77 : decode cX7_meeting 77 = .ok (.iaload, 1) := by decide +kernel
theorem dX7_meeting_78 : decode cX7_meeting 78 = .ok (.goto 9, 3) := by decide +kernel
theorem dX7_meeting_81 : decode cX7_meeting 81 = .ok (.aload_n 0, 1) := by decide +kernel
theorem dX7_meeting_82 : decode cX7_meeting 82 = .ok (.getfield 51, 3) := by decide +kernel
theorem dX7_meeting_85 : decode cX7_meeting 85 = .ok (.iload_n 1, 1) := by decide +kernel
theorem dX7_meeting_86 : decode cX7_meeting 86 = .ok (.iaload, 1) := by decide +kernel
theorem dX7_meeting_87 : decode cX7_meeting 87 = .ok (.ireturn, 1) := by decide +kernel
set_option maxRecDepth 20000 in
theorem ggX7_visits_X7_isCell : GoodIn wsX7_visits wsX7_isCell := goodIn_r _ [6, 7, 8, 5, 9] (by decide +kernel) (by decide +kernel)
set_option maxRecDepth 20000 in
theorem gX7_visits_X7_isCell : GoodIn wsX7_visits (va_wsS RX7 113 yX7_isCell wsX7_isCell) := goodIn_app (goodIn_of _ (by decide +kernel)) ggX7_visits_X7_isCell
set_option maxRecDepth 20000 in
theorem ggX7_visits_X7_cell : GoodIn wsX7_visits wsX7_cell := goodIn_r _ [12] (by decide +kernel) (by decide +kernel)
set_option maxRecDepth 20000 in
theorem gX7_visits_X7_cell : GoodIn wsX7_visits (va_wsS RX7 117 yX7_cell wsX7_cell) := goodIn_app (goodIn_of _ (by decide +kernel)) ggX7_visits_X7_cell
theorem dX7_visits_0 : decode cX7_visits 0 = .ok (.iload_n 1, 1) := by decide +kernel
theorem dX7_visits_1 : decode cX7_visits 1 = .ok (.iload_n 2, 1) := by decide +kernel
theorem dX7_visits_2 : decode cX7_visits 2 = .ok (.invokestatic 113, 3) := by decide +kernel
theorem dX7_visits_5 : decode cX7_visits 5 = .ok (.ifCond .eq 16, 3) := by decide +kernel
theorem dX7_visits_8 : decode cX7_visits 8 = .ok (.aload_n 0, 1) := by decide +kernel
theorem dX7_visits_9 : decode cX7_visits 9 = .ok (.getfield 18, 3) := by decide +kernel
theorem dX7_visits_12 : decode cX7_visits 12 = .ok (.iload_n 1, 1) := by decide +kernel
theorem dX7_visits_13 : decode cX7_visits 13 = .ok (.iload_n 2, 1) := by decide +kernel
theorem dX7_visits_14 : decode cX7_visits 14 = .ok (.invokestatic 117, 3) := by decide +kernel
theorem dX7_visits_17 : decode cX7_visits 17 = .ok (.iaload, 1) := by decide +kernel
theorem dX7_visits_18 : decode cX7_visits 18 = .ok (.goto 5, 3) := by decide +kernel
theorem dX7_visits_21 : decode cX7_visits 21 = .ok (.ldc 147, 2) := by decide +kernel
theorem dX7_visits_23 : decode cX7_visits 23 = .ok (.ireturn, 1) := by decide +kernel
set_option maxRecDepth 20000 in
theorem ggX7_count_X7_in : GoodIn wsX7_count wsX7_in := goodIn_r _ [11] (by decide +kernel) (by decide +kernel)
set_option maxRecDepth 20000 in
theorem gX7_count_X7_in : GoodIn wsX7_count (va_wsS RX7 1 yX7_in wsX7_in) := goodIn_app (goodIn_of _ (by decide +kernel)) ggX7_count_X7_in
theorem dX7_count_0 : decode cX7_count 0 = .ok (.iconst 0, 1) := by decide +kernel
theorem dX7_count_1 : decode cX7_count 1 = .ok (.istore_n 2, 1) := by decide +kernel
theorem dX7_count_2 : decode cX7_count 2 = .ok (.iload_n 1, 1) := by decide +kernel
theorem dX7_count_3 : decode cX7_count 3 = .ok (.iconst 1, 1) := by decide +kernel
theorem dX7_count_4 : decode cX7_count 4 = .ok (.if_icmp .eq 24, 3) := by decide +kernel
theorem dX7_count_7 : decode cX7_count 7 = .ok (.iload_n 1, 1) := by decide +kernel
theorem dX7_count_8 : decode cX7_count 8 = .ok (.iconst 3, 1) := by decide +kernel
theorem dX7_count_9 : decode cX7_count 9 = .ok (.if_icmp .eq 19, 3) := by decide +kernel
theorem dX7_count_12 : decode cX7_count 12 = .ok (.iload_n 1, 1) := by decide +kernel
theorem dX7_count_13 : decode cX7_count 13 = .ok (.bipush 10, 2) := by decide +kernel
theorem dX7_count_15 : decode cX7_count 15 = .ok (.bipush 9, 2) := by decide +kernel
theorem dX7_count_17 : decode cX7_count 17 = .ok (.aload_n 0, 1) := by decide +kernel
theorem dX7_count_18 : decode cX7_count 18 = .ok (.getfield 84, 3) := by decide +kernel
theorem dX7_count_21 : decode cX7_count 21 = .ok (.iadd, 1) := by decide +kernel
theorem dX7_count_22 : decode cX7_count 22 = .ok (.invokestatic 1, 3) := by decide +kernel
theorem dX7_count_25 : decode cX7_count 25 = .ok (.ifCond .eq 96, 3) := by decide +kernel
theorem dX7_count_28 : decode cX7_count 28 = .ok (.iconst 0, 1) := by decide +kernel
theorem dX7_count_29 : decode cX7_count 29 = .ok (.istore_n 3, 1) := by decide +kernel
theorem dX7_count_30 : decode cX7_count 30 = .ok (.iload_n 3, 1) := by decide +kernel
theorem dX7_count_31 : decode cX7_count 31 = .ok (.ldc 13, 2) := by decide +kernel
theorem dX7_count_33 : decode cX7_count 33 = .ok (.if_icmp .ge 86, 3) := by decide +kernel
theorem dX7_count_36 : decode cX7_count 36 = .ok (.iload_n 1, 1) := by decide +kernel
theorem dX7_count_37 : decode cX7_count 37 = .ok (.iconst 1, 1) := by decide +kernel
theorem dX7_count_38 : decode cX7_count 38 = .ok (.if_icmp .ne 20, 3) := by decide +kernel
theorem dX7_count_41 : decode cX7_count 41 = .ok (.aload_n 0, 1) := by decide +kernel
theorem dX7_count_42 : decode cX7_count 42 = .ok (.getfield 14, 3) := by decide +kernel
theorem dX7_count_45 : decode cX7_count 45 = .ok (.iload_n 3, 1) := by decide +kernel
theorem dX7_count_46 : decode cX7_count 46 = .ok (.iaload, 1) := by decide +kernel
theorem dX7_count_47 : decode cX7_count 47 = .ok (.ifCond .eq 7, 3) := by decide +kernel
theorem dX7_count_50 : decode cX7_count 50 = .ok (.iconst 1, 1) := by decide +kernel
theorem dX7_count_51 : decode cX7_count 51 = .ok (.goto 47, 3) := by decide +kernel
theorem dX7_count_54 : decode cX7_count 54 = .ok (.iconst 0, 1) := by decide +kernel
theorem dX7_count_55 : decode cX7_count 55 = .ok (.goto 43, 3) := by decide +kernel
theorem dX7_count_58 : decode cX7_count 58 = .ok (.iload_n 1, 1) := by decide +kernel
theorem dX7_count_59 : decode cX7_count 59 = .ok (.iconst 3, 1) := by decide +kernel
theorem dX7_count_60 : decode cX7_count 60 = .ok (.if_icmp .ne 20, 3) := by decide +kernel
theorem dX7_count_63 : decode cX7_count 63 = .ok (.aload_n 0, 1) := by decide +kernel
theorem dX7_count_64 : decode cX7_count 64 = .ok (.getfield 18, 3) := by decide +kernel
theorem dX7_count_67 : decode cX7_count 67 = .ok (.iload_n 3, 1) := by decide +kernel
theorem dX7_count_68 : decode cX7_count 68 = .ok (.iaload, 1) := by decide +kernel
theorem dX7_count_69 : decode cX7_count 69 = .ok (.ifCond .eq 7, 3) := by decide +kernel
theorem dX7_count_72 : decode cX7_count 72 = .ok (.iconst 1, 1) := by decide +kernel
theorem dX7_count_73 : decode cX7_count 73 = .ok (.goto 25, 3) := by decide +kernel
theorem dX7_count_76 : decode cX7_count 76 = .ok (.iconst 0, 1) := by decide +kernel
theorem dX7_count_77 : decode cX7_count 77 = .ok (.goto 21, 3) := by decide +kernel
theorem dX7_count_80 : decode cX7_count 80 = .ok (.aload_n 0, 1) := by decide +kernel
theorem dX7_count_81 : decode cX7_count 81 = .ok (.getfield 14, 3) := by decide +kernel
theorem dX7_count_84 : decode cX7_count 84 = .ok (.iload_n 3, 1) := by decide +kernel
theorem dX7_count_85 : decode cX7_count 85 = .ok (.iaload, 1) := by decide +kernel
theorem dX7_count_86 : decode cX7_count 86 = .ok (.iload_n 1, 1) := by decide +kernel
theorem dX7_count_87 : decode cX7_count 87 = .ok (.bipush 10, 2) := by decide +kernel
theorem dX7_count_89 : decode cX7_count 89 = .ok (.isub, 1) := by decide +kernel
theorem dX7_count_90 : decode cX7_count 90 = .ok (.if_icmp .ne 7, 3) := by decide +kernel
theorem dX7_count_93 : decode cX7_count 93 = .ok (.iconst 1, 1) := by decide +kernel
theorem dX7_count_94 : decode cX7_count 94 = .ok (.goto 4, 3) := by decide +kernel
theorem dX7_count_97 : decode cX7_count 97 = .ok (.iconst 0, 1) := by decide +kernel
theorem dX7_count_98 : decode cX7_count 98 = .ok (.istore 4, 2) := by decide +kernel
theorem dX7_count_100 : decode cX7_count 100 = .ok (.iload_n 2, 1) := by decide +kernel
theorem dX7_count_101 : decode cX7_count 101 = .ok (.iload 4, 2) := by decide +kernel
theorem dX7_count_103 : decode cX7_count 103 = .ok (.ifCond .eq 7, 3) := by decide +kernel
theorem dX7_count_106 : decode cX7_count 106 = .ok (.iconst 1, 1) := by decide +kernel
theorem dX7_count_107 : decode cX7_count 107 = .ok (.goto 4, 3) := by decide +kernel
theorem dX7_count_110 : decode cX7_count 110 = .ok (.iconst 0, 1) := by decide +kernel
theorem dX7_count_111 : decode cX7_count 111 = .ok (.iadd, 1) := by decide +kernel
theorem dX7_count_112 : decode cX7_count 112 = .ok (.istore_n 2, 1) := by decide +kernel
theorem dX7_count_113 : decode cX7_count 113 = .ok (.iinc 3 1, 3) := by decide +kernel
theorem dX7_count_116 : decode cX7_count 116 = .ok (.goto (-86), 3) := by decide +kernel
theorem dX7_count_119 : decode cX7_count 119 = .ok (.iload_n 2, 1) := by decide +kernel
theorem dX7_count_120 : decode cX7_count 120 = .ok (.ireturn, 1) := by decide +kernel
theorem dX7_count_121 : decode cX7_count 121 = .ok (.iload_n 1, 1) := by decide +kernel
theorem dX7_count_122 : decode cX7_count 122 = .ok (.ifCond .ne 10, 3) := by decide +kernel
theorem dX7_count_125 : decode cX7_count 125 = .ok (.aload_n 0, 1) := by decide +kernel
theorem dX7_count_126 : decode cX7_count 126 = .ok (.getfield 81, 3) := by decide +kernel
theorem dX7_count_129 : decode cX7_count 129 = .ok (.goto 40, 3) := by decide +kernel
theorem dX7_count_132 : decode cX7_count 132 = .ok (.iload_n 1, 1) := by decide +kernel
theorem dX7_count_133 : decode cX7_count 133 = .ok (.iconst 2, 1) := by decide +kernel
theorem dX7_count_134 : decode cX7_count 134 = .ok (.if_icmp .ne 10, 3) := by decide +kernel
theorem dX7_count_137 : decode cX7_count 137 = .ok (.aload_n 0, 1) := by decide +kernel
theorem dX7_count_138 : decode cX7_count 138 = .ok (.getfield 94, 3) := by decide +kernel
theorem dX7_count_141 : decode cX7_count 141 = .ok (.goto 28, 3) := by decide +kernel
theorem dX7_count_144 : decode cX7_count 144 = .ok (.iload_n 1, 1) := by decide +kernel
theorem dX7_count_145 : decode cX7_count 145 = .ok (.iconst 4, 1) := by decide +kernel
theorem dX7_count_146 : decode cX7_count 146 = .ok (.if_icmp .ne 10, 3) := by decide +kernel
theorem dX7_count_149 : decode cX7_count 149 = .ok (.aload_n 0, 1) := by decide +kernel
theorem dX7_count_150 : decode cX7_count 150 = .ok (.getfield 84, 3) := by decide +kernel
theorem dX7_count_153 : decode cX7_count 153 = .ok (.goto 16, 3) := by decide +kernel
theorem dX7_count_156 : decode cX7_count 156 = .ok (.iload_n 1, 1) := by decide +kernel
theorem dX7_count_157 : decode cX7_count 157 = .ok (.iconst 5, 1) := by decide +kernel
theorem dX7_count_158 : decode cX7_count 158 = .ok (.if_icmp .ne 10, 3) := by decide +kernel
theorem dX7_count_161 : decode cX7_count 161 = .ok (.aload_n 0, 1) := by decide +kernel
theorem dX7_count_162 : decode cX7_count 162 = .ok (.getfield 77, 3) := by decide +kernel
theorem dX7_count_165 : decode cX7_count 165 = .ok (.goto 4, 3) := by decide +kernel
theorem dX7_count_168 : decode cX7_count 168 = .ok (.iconst (-1), 1) := by decide +kernel
theorem dX7_count_169 : decode cX7_count 169 = .ok (.ireturn, 1) := by decide +kernel
set_option maxRecDepth 20000 in
theorem ggX7_bounds_X7_in : GoodIn wsX7_bounds wsX7_in := goodIn_r _ [6] (by decide +kernel) (by decide +kernel)
set_option maxRecDepth 20000 in
theorem gX7_bounds_X7_in : GoodIn wsX7_bounds (va_wsS RX7 1 yX7_in wsX7_in) := goodIn_app (goodIn_of _ (by decide +kernel)) ggX7_bounds_X7_in
theorem dX7_bounds_0 : decode cX7_bounds 0 = .ok (.iload_n 1, 1) := by decide +kernel
theorem dX7_bounds_1 : decode cX7_bounds 1 = .ok (.iconst 0, 1) := by decide +kernel
theorem dX7_bounds_2 : decode cX7_bounds 2 = .ok (.iconst 3, 1) := by decide +kernel
theorem dX7_bounds_3 : decode cX7_bounds 3 = .ok (.invokestatic 1, 3) := by decide +kernel
theorem dX7_bounds_6 : decode cX7_bounds 6 = .ok (.ifCond .ne 7, 3) := by decide +kernel
theorem dX7_bounds_9 : decode cX7_bounds 9 = .ok (.sipush (-1001), 3) := by decide +kernel
theorem dX7_bounds_12 : decode cX7_bounds 12 = .ok (.ireturn, 1) := by decide +kernel
theorem dX7_bounds_13 : decode cX7_bounds 13 = .ok (.sipush 1000, 3) := by decide +kernel
theorem dX7_bounds_16 : decode cX7_bounds 16 = .ok (.istore_n 2, 1) := by decide +kernel
theorem dX7_bounds_17 : decode cX7_bounds 17 = .ok (.sipush (-1000), 3) := by decide +kernel
theorem dX7_bounds_20 : decode cX7_bounds 20 = .ok (.istore_n 3, 1) := by decide +kernel
theorem dX7_bounds_21 : decode cX7_bounds 21 = .ok (.iconst 0, 1) := by decide +kernel
theorem dX7_bounds_22 : decode cX7_bounds 22 = .ok (.istore 4, 2) := by decide +kernel
theorem dX7_bounds_24 : decode cX7_bounds 24 = .ok (.iload 4, 2) := by decide +kernel
theorem dX7_bounds_26 : decode cX7_bounds 26 = .ok (.ldc 13, 2) := by decide +kernel
theorem dX7_bounds_28 : decode cX7_bounds 28 = .ok (.if_icmp .ge 73, 3) := by decide +kernel
theorem dX7_bounds_31 : decode cX7_bounds 31 = .ok (.aload_n 0, 1) := by decide +kernel
theorem dX7_bounds_32 : decode cX7_bounds 32 = .ok (.getfield 14, 3) := by decide +kernel
theorem dX7_bounds_35 : decode cX7_bounds 35 = .ok (.iload 4, 2) := by decide +kernel
theorem dX7_bounds_37 : decode cX7_bounds 37 = .ok (.iaload, 1) := by decide +kernel
theorem dX7_bounds_38 : decode cX7_bounds 38 = .ok (.ifCond .eq 57, 3) := by decide +kernel
theorem dX7_bounds_41 : decode cX7_bounds 41 = .ok (.iload_n 1, 1) := by decide +kernel
theorem dX7_bounds_42 : decode cX7_bounds 42 = .ok (.iconst 2, 1) := by decide +kernel
theorem dX7_bounds_43 : decode cX7_bounds 43 = .ok (.if_icmp .ge 15, 3) := by decide +kernel
theorem dX7_bounds_46 : decode cX7_bounds 46 = .ok (.iload 4, 2) := by decide +kernel
theorem dX7_bounds_48 : decode cX7_bounds 48 = .ok (.sipush 240, 3) := by decide +kernel
theorem dX7_bounds_51 : decode cX7_bounds 51 = .ok (.irem, 1) := by decide +kernel
theorem dX7_bounds_52 : decode cX7_bounds 52 = .ok (.bipush 120, 2) := by decide +kernel
theorem dX7_bounds_54 : decode cX7_bounds 54 = .ok (.isub, 1) := by decide +kernel
theorem dX7_bounds_55 : decode cX7_bounds 55 = .ok (.goto 12, 3) := by decide +kernel
theorem dX7_bounds_58 : decode cX7_bounds 58 = .ok (.iload 4, 2) := by decide +kernel
theorem dX7_bounds_60 : decode cX7_bounds 60 = .ok (.sipush 240, 3) := by decide +kernel
theorem dX7_bounds_63 : decode cX7_bounds 63 = .ok (.idiv, 1) := by decide +kernel
theorem dX7_bounds_64 : decode cX7_bounds 64 = .ok (.bipush 120, 2) := by decide +kernel
theorem dX7_bounds_66 : decode cX7_bounds 66 = .ok (.isub, 1) := by decide +kernel
theorem dX7_bounds_67 : decode cX7_bounds 67 = .ok (.istore 5, 2) := by decide +kernel
theorem dX7_bounds_69 : decode cX7_bounds 69 = .ok (.iload 5, 2) := by decide +kernel
theorem dX7_bounds_71 : decode cX7_bounds 71 = .ok (.iload_n 2, 1) := by decide +kernel
theorem dX7_bounds_72 : decode cX7_bounds 72 = .ok (.if_icmp .ge 8, 3) := by decide +kernel
theorem dX7_bounds_75 : decode cX7_bounds 75 = .ok (.iload 5, 2) := by decide +kernel
theorem dX7_bounds_77 : decode cX7_bounds 77 = .ok (.goto 4, 3) := by decide +kernel
theorem dX7_bounds_80 : decode cX7_bounds 80 = .ok (.iload_n 2, 1) := by decide +kernel
theorem dX7_bounds_81 : decode cX7_bounds 81 = .ok (.istore_n 2, 1) := by decide +kernel
theorem dX7_bounds_82 : decode cX7_bounds 82 = .ok (.iload 5, 2) := by decide +kernel
theorem dX7_bounds_84 : decode cX7_bounds 84 = .ok (.iload_n 3, 1) := by decide +kernel
theorem dX7_bounds_85 : decode cX7_bounds 85 = .ok (.if_icmp .le 8, 3) := by decide +kernel
theorem dX7_bounds_88 : decode cX7_bounds 88 = .ok (.iload 5, 2) := by decide +kernel
theorem dX7_bounds_90 : decode cX7_bounds 90 = .ok (.goto 4, 3) := by decide +kernel
theorem dX7_bounds_93 : decode cX7_bounds 93 = .ok (.iload_n 3, 1) := by decide +kernel
theorem dX7_bounds_94 : decode cX7_bounds 94 = .ok (.istore_n 3, 1) := by decide +kernel
theorem dX7_bounds_95 : decode cX7_bounds 95 = .ok (.iinc 4 1, 3) := by decide +kernel
theorem dX7_bounds_98 : decode cX7_bounds 98 = .ok (.goto (-74), 3) := by decide +kernel
theorem dX7_bounds_101 : decode cX7_bounds 101 = .ok (.iload_n 2, 1) := by decide +kernel
theorem dX7_bounds_102 : decode cX7_bounds 102 = .ok (.iload_n 3, 1) := by decide +kernel
theorem dX7_bounds_103 : decode cX7_bounds 103 = .ok (.if_icmp .le 9, 3) := by decide +kernel
theorem dX7_bounds_106 : decode cX7_bounds 106 = .ok (.sipush (-1001), 3) := by decide +kernel
theorem dX7_bounds_109 : decode cX7_bounds 109 = .ok (.goto 14, 3) := by decide +kernel
theorem dX7_bounds_112 : decode cX7_bounds 112 = .ok (.iload_n 1, 1) := by decide +kernel
theorem dX7_bounds_113 : decode cX7_bounds 113 = .ok (.iconst 2, 1) := by decide +kernel
theorem dX7_bounds_114 : decode cX7_bounds 114 = .ok (.irem, 1) := by decide +kernel
theorem dX7_bounds_115 : decode cX7_bounds 115 = .ok (.ifCond .ne 7, 3) := by decide +kernel
theorem dX7_bounds_118 : decode cX7_bounds 118 = .ok (.iload_n 2, 1) := by decide +kernel
theorem dX7_bounds_119 : decode cX7_bounds 119 = .ok (.goto 4, 3) := by decide +kernel
theorem dX7_bounds_122 : decode cX7_bounds 122 = .ok (.iload_n 3, 1) := by decide +kernel
theorem dX7_bounds_123 : decode cX7_bounds 123 = .ok (.ireturn, 1) := by decide +kernel
set_option maxRecDepth 20000 in
theorem ggX7_digest_X7_cell : GoodIn wsX7_digest wsX7_cell := goodIn_r _ [12] (by decide +kernel) (by decide +kernel)
set_option maxRecDepth 20000 in
theorem gX7_digest_X7_cell : GoodIn wsX7_digest (va_wsS RX7 117 yX7_cell wsX7_cell) := goodIn_app (goodIn_of _ (by decide +kernel)) ggX7_digest_X7_cell
theorem dX7_digest_0 : decode cX7_digest 0 = .ok (.ldc2_w 148, 3) := by decide +kernel
theorem dX7_digest_3 : decode cX7_digest 3 = .ok (.lstore_n 1, 1) := by decide +kernel
theorem dX7_digest_4 : decode cX7_digest 4 = .ok (.bipush 119, 2) := by decide +kernel
theorem dX7_digest_6 : decode cX7_digest 6 = .ok (.istore_n 3, 1) := by decide +kernel
theorem dX7_digest_7 : decode cX7_digest 7 = .ok (.iload_n 3, 1) := by decide +kernel
theorem dX7_digest_8 : decode cX7_digest 8 = .ok (.bipush (-120), 2) := by decide +kernel
theorem dX7_digest_10 : decode cX7_digest 10 = .ok (.if_icmp .lt 45, 3) := by decide +kernel
theorem dX7_digest_13 : decode cX7_digest 13 = .ok (.bipush (-120), 2) := by decide +kernel
theorem dX7_digest_15 : decode cX7_digest 15 = .ok (.istore 4, 2) := by decide +kernel
theorem dX7_digest_17 : decode cX7_digest 17 = .ok (.iload 4, 2) := by decide +kernel
theorem dX7_digest_19 : decode cX7_digest 19 = .ok (.bipush 120, 2) := by decide +kernel
theorem dX7_digest_21 : decode cX7_digest 21 = .ok (.if_icmp .ge 28, 3) := by decide +kernel
theorem dX7_digest_24 : decode cX7_digest 24 = .ok (.ldc2_w 150, 3) := by decide +kernel
theorem dX7_digest_27 : decode cX7_digest 27 = .ok (.lload_n 1, 1) := by decide +kernel
theorem dX7_digest_28 : decode cX7_digest 28 = .ok (.lmul, 1) := by decide +kernel
theorem dX7_digest_29 : decode cX7_digest 29 = .ok (.aload_n 0, 1) := by decide +kernel
theorem dX7_digest_30 : decode cX7_digest 30 = .ok (.getfield 14, 3) := by decide +kernel
theorem dX7_digest_33 : decode cX7_digest 33 = .ok (.iload 4, 2) := by decide +kernel
theorem dX7_digest_35 : decode cX7_digest 35 = .ok (.iload_n 3, 1) := by decide +kernel
theorem dX7_digest_36 : decode cX7_digest 36 = .ok (.invokestatic 117, 3) := by decide +kernel
theorem dX7_digest_39 : decode cX7_digest 39 = .ok (.iaload, 1) := by decide +kernel
theorem dX7_digest_40 : decode cX7_digest 40 = .ok (.i2l, 1) := by decide +kernel
theorem dX7_digest_41 : decode cX7_digest 41 = .ok (.ladd, 1) := by decide +kernel
theorem dX7_digest_42 : decode cX7_digest 42 = .ok (.lstore_n 1, 1) := by decide +kernel
theorem dX7_digest_43 : decode cX7_digest 43 = .ok (.iinc 4 1, 3) := by decide +kernel
theorem dX7_digest_46 : decode cX7_digest 46 = .ok (.goto (-29), 3) := by decide +kernel
theorem dX7_digest_49 : decode cX7_digest 49 = .ok (.iinc 3 (-1), 3) := by decide +kernel
theorem dX7_digest_52 : decode cX7_digest 52 = .ok (.goto (-45), 3) := by decide +kernel
theorem dX7_digest_55 : decode cX7_digest 55 = .ok (.iconst 0, 1) := by decide +kernel
theorem dX7_digest_56 : decode cX7_digest 56 = .ok (.istore_n 3, 1) := by decide +kernel
theorem dX7_digest_57 : decode cX7_digest 57 = .ok (.iload_n 3, 1) := by decide +kernel
theorem dX7_digest_58 : decode cX7_digest 58 = .ok (.aload_n 0, 1) := by decide +kernel
theorem dX7_digest_59 : decode cX7_digest 59 = .ok (.getfield 81, 3) := by decide +kernel
theorem dX7_digest_62 : decode cX7_digest 62 = .ok (.if_icmp .ge 65, 3) := by decide +kernel
theorem dX7_digest_65 : decode cX7_digest 65 = .ok (.ldc2_w 150, 3) := by decide +kernel
theorem dX7_digest_68 : decode cX7_digest 68 = .ok (.lload_n 1, 1) := by decide +kernel
theorem dX7_digest_69 : decode cX7_digest 69 = .ok (.lmul, 1) := by decide +kernel
theorem dX7_digest_70 : decode cX7_digest 70 = .ok (.aload_n 0, 1) := by decide +kernel
theorem dX7_digest_71 : decode cX7_digest 71 = .ok (.getfield 27, 3) := by decide +kernel
theorem dX7_digest_74 : decode cX7_digest 74 = .ok (.iload_n 3, 1) := by decide +kernel
theorem dX7_digest_75 : decode cX7_digest 75 = .ok (.iaload, 1) := by decide +kernel
