theorem dX7_lay_1 : decode cX7_lay 1 = .ok (.invokestatic 180, 3) := by decide +kernel
theorem dX7_lay_4 : decode cX7_lay 4 = .ok (.ifCond .eq 12, 3) := by decide +kernel
theorem dX7_lay_7 : decode cX7_lay 7 = .ok (.iload_n 2, 1) := by decide +kernel
theorem dX7_lay_8 : decode cX7_lay 8 = .ok (.iconst 0, 1) := by decide +kernel
theorem dX7_lay_9 : decode cX7_lay 9 = .ok (.iconst 2, 1) := by decide +kernel
theorem dX7_lay_10 : decode cX7_lay 10 = .ok (.invokestatic 1, 3) := by decide +kernel
theorem dX7_lay_13 : decode cX7_lay 13 = .ok (.ifCond .ne 5, 3) := by decide +kernel
theorem dX7_lay_16 : decode cX7_lay 16 = .ok (.iconst (-1), 1) := by decide +kernel
theorem dX7_lay_17 : decode cX7_lay 17 = .ok (.ireturn, 1) := by decide +kernel
theorem dX7_lay_18 : decode cX7_lay 18 = .ok (.aload_n 0, 1) := by decide +kernel
theorem dX7_lay_19 : decode cX7_lay 19 = .ok (.getfield 61, 3) := by decide +kernel
theorem dX7_lay_22 : decode cX7_lay 22 = .ok (.iload_n 1, 1) := by decide +kernel
theorem dX7_lay_23 : decode cX7_lay 23 = .ok (.iaload, 1) := by decide +kernel
theorem dX7_lay_24 : decode cX7_lay 24 = .ok (.ifCond .ge 6, 3) := by decide +kernel
theorem dX7_lay_27 : decode cX7_lay 27 = .ok (.bipush (-11), 2) := by decide +kernel
theorem dX7_lay_29 : decode cX7_lay 29 = .ok (.ireturn, 1) := by decide +kernel
theorem dX7_lay_30 : decode cX7_lay 30 = .ok (.aload_n 0, 1) := by decide +kernel
theorem dX7_lay_31 : decode cX7_lay 31 = .ok (.getfield 61, 3) := by decide +kernel
theorem dX7_lay_34 : decode cX7_lay 34 = .ok (.iload_n 1, 1) := by decide +kernel
theorem dX7_lay_35 : decode cX7_lay 35 = .ok (.iaload, 1) := by decide +kernel
theorem dX7_lay_36 : decode cX7_lay 36 = .ok (.iload_n 2, 1) := by decide +kernel
theorem dX7_lay_37 : decode cX7_lay 37 = .ok (.if_icmp .eq 6, 3) := by decide +kernel
theorem dX7_lay_40 : decode cX7_lay 40 = .ok (.bipush (-12), 2) := by decide +kernel
theorem dX7_lay_42 : decode cX7_lay 42 = .ok (.ireturn, 1) := by decide +kernel
theorem dX7_lay_43 : decode cX7_lay 43 = .ok (.iload 4, 2) := by decide +kernel
theorem dX7_lay_45 : decode cX7_lay 45 = .ok (.ifCond .ge 6, 3) := by decide +kernel
theorem dX7_lay_48 : decode cX7_lay 48 = .ok (.bipush (-14), 2) := by decide +kernel
theorem dX7_lay_50 : decode cX7_lay 50 = .ok (.ireturn, 1) := by decide +kernel
theorem dX7_lay_51 : decode cX7_lay 51 = .ok (.aload_n 0, 1) := by decide +kernel
theorem dX7_lay_52 : decode cX7_lay 52 = .ok (.iload_n 1, 1) := by decide +kernel
theorem dX7_lay_53 : decode cX7_lay 53 = .ok (.iload_n 3, 1) := by decide +kernel
theorem dX7_lay_54 : decode cX7_lay 54 = .ok (.iload 4, 2) := by decide +kernel
theorem dX7_lay_56 : decode cX7_lay 56 = .ok (.invokevirtual 183, 3) := by decide +kernel
theorem dX7_lay_59 : decode cX7_lay 59 = .ok (.ifCond .ne 6, 3) := by decide +kernel
theorem dX7_lay_62 : decode cX7_lay 62 = .ok (.bipush (-13), 2) := by decide +kernel
theorem dX7_lay_64 : decode cX7_lay 64 = .ok (.ireturn, 1) := by decide +kernel
theorem dX7_lay_65 : decode cX7_lay 65 = .ok (.iconst 1, 1) := by decide +kernel
theorem dX7_lay_66 : decode cX7_lay 66 = .ok (.istore 7, 2) := by decide +kernel
theorem dX7_lay_68 : decode cX7_lay 68 = .ok (.iconst 0, 1) := by decide +kernel
theorem dX7_lay_69 : decode cX7_lay 69 = .ok (.istore 8, 2) := by decide +kernel
theorem dX7_lay_71 : decode cX7_lay 71 = .ok (.iload 8, 2) := by decide +kernel
theorem dX7_lay_73 : decode cX7_lay 73 = .ok (.iload 4, 2) := by decide +kernel
theorem dX7_lay_75 : decode cX7_lay 75 = .ok (.if_icmp .ge 75, 3) := by decide +kernel
theorem dX7_lay_78 : decode cX7_lay 78 = .ok (.iload 7, 2) := by decide +kernel
theorem dX7_lay_80 : decode cX7_lay 80 = .ok (.ifCond .eq 61, 3) := by decide +kernel
theorem dX7_lay_83 : decode cX7_lay 83 = .ok (.iload 5, 2) := by decide +kernel
theorem dX7_lay_85 : decode cX7_lay 85 = .ok (.bipush (-120), 2) := by decide +kernel
theorem dX7_lay_87 : decode cX7_lay 87 = .ok (.bipush 119, 2) := by decide +kernel
theorem dX7_lay_89 : decode cX7_lay 89 = .ok (.iload 8, 2) := by decide +kernel
theorem dX7_lay_91 : decode cX7_lay 91 = .ok (.isub, 1) := by decide +kernel
theorem dX7_lay_92 : decode cX7_lay 92 = .ok (.invokestatic 1, 3) := by decide +kernel
theorem dX7_lay_95 : decode cX7_lay 95 = .ok (.ifCond .eq 46, 3) := by decide +kernel
theorem dX7_lay_98 : decode cX7_lay 98 = .ok (.iload 6, 2) := by decide +kernel
theorem dX7_lay_100 : decode cX7_lay 100 = .ok (.bipush (-120), 2) := by decide +kernel
theorem dX7_lay_102 : decode cX7_lay 102 = .ok (.bipush 119, 2) := by decide +kernel
theorem dX7_lay_104 : decode cX7_lay 104 = .ok (.invokestatic 1, 3) := by decide +kernel
theorem dX7_lay_107 : decode cX7_lay 107 = .ok (.ifCond .eq 34, 3) := by decide +kernel
theorem dX7_lay_110 : decode cX7_lay 110 = .ok (.aload_n 0, 1) := by decide +kernel
theorem dX7_lay_111 : decode cX7_lay 111 = .ok (.getfield 67, 3) := by decide +kernel
theorem dX7_lay_114 : decode cX7_lay 114 = .ok (.bipush 60, 2) := by decide +kernel
theorem dX7_lay_116 : decode cX7_lay 116 = .ok (.iload_n 1, 1) := by decide +kernel
theorem dX7_lay_117 : decode cX7_lay 117 = .ok (.imul, 1) := by decide +kernel
theorem dX7_lay_118 : decode cX7_lay 118 = .ok (.iload_n 3, 1) := by decide +kernel
theorem dX7_lay_119 : decode cX7_lay 119 = .ok (.iadd, 1) := by decide +kernel
theorem dX7_lay_120 : decode cX7_lay 120 = .ok (.iload 8, 2) := by decide +kernel
theorem dX7_lay_122 : decode cX7_lay 122 = .ok (.iadd, 1) := by decide +kernel
theorem dX7_lay_123 : decode cX7_lay 123 = .ok (.iaload, 1) := by decide +kernel
theorem dX7_lay_124 : decode cX7_lay 124 = .ok (.iconst 0, 1) := by decide +kernel
theorem dX7_lay_125 : decode cX7_lay 125 = .ok (.aload_n 0, 1) := by decide +kernel
theorem dX7_lay_126 : decode cX7_lay 126 = .ok (.getfield 84, 3) := by decide +kernel
theorem dX7_lay_129 : decode cX7_lay 129 = .ok (.iconst 1, 1) := by decide +kernel
theorem dX7_lay_130 : decode cX7_lay 130 = .ok (.isub, 1) := by decide +kernel
theorem dX7_lay_131 : decode cX7_lay 131 = .ok (.invokestatic 1, 3) := by decide +kernel
theorem dX7_lay_134 : decode cX7_lay 134 = .ok (.ifCond .eq 7, 3) := by decide +kernel
theorem dX7_lay_137 : decode cX7_lay 137 = .ok (.iconst 1, 1) := by decide +kernel
theorem dX7_lay_138 : decode cX7_lay 138 = .ok (.goto 4, 3) := by decide +kernel
theorem dX7_lay_141 : decode cX7_lay 141 = .ok (.iconst 0, 1) := by decide +kernel
theorem dX7_lay_142 : decode cX7_lay 142 = .ok (.istore 7, 2) := by decide +kernel
theorem dX7_lay_144 : decode cX7_lay 144 = .ok (.iinc 8 1, 3) := by decide +kernel
theorem dX7_lay_147 : decode cX7_lay 147 = .ok (.goto (-76), 3) := by decide +kernel
theorem dX7_lay_150 : decode cX7_lay 150 = .ok (.iload 7, 2) := by decide +kernel
theorem dX7_lay_152 : decode cX7_lay 152 = .ok (.ifCond .ne 5, 3) := by decide +kernel
theorem dX7_lay_155 : decode cX7_lay 155 = .ok (.iconst (-1), 1) := by decide +kernel
theorem dX7_lay_156 : decode cX7_lay 156 = .ok (.ireturn, 1) := by decide +kernel
theorem dX7_lay_157 : decode cX7_lay 157 = .ok (.iconst 0, 1) := by decide +kernel
theorem dX7_lay_158 : decode cX7_lay 158 = .ok (.istore 8, 2) := by decide +kernel
theorem dX7_lay_160 : decode cX7_lay 160 = .ok (.iload 8, 2) := by decide +kernel
theorem dX7_lay_162 : decode cX7_lay 162 = .ok (.iload 4, 2) := by decide +kernel
theorem dX7_lay_164 : decode cX7_lay 164 = .ok (.if_icmp .ge 38, 3) := by decide +kernel
theorem dX7_lay_167 : decode cX7_lay 167 = .ok (.aload_n 0, 1) := by decide +kernel
theorem dX7_lay_168 : decode cX7_lay 168 = .ok (.getfield 14, 3) := by decide +kernel
theorem dX7_lay_171 : decode cX7_lay 171 = .ok (.iload 5, 2) := by decide +kernel
theorem dX7_lay_173 : decode cX7_lay 173 = .ok (.iload 8, 2) := by decide +kernel
theorem dX7_lay_175 : decode cX7_lay 175 = .ok (.iadd, 1) := by decide +kernel
theorem dX7_lay_176 : decode cX7_lay 176 = .ok (.iload 6, 2) := by decide +kernel
theorem dX7_lay_178 : decode cX7_lay 178 = .ok (.invokestatic 117, 3) := by decide +kernel
theorem dX7_lay_181 : decode cX7_lay 181 = .ok (.aload_n 0, 1) := by decide +kernel
theorem dX7_lay_182 : decode cX7_lay 182 = .ok (.getfield 67, 3) := by decide +kernel
theorem dX7_lay_185 : decode cX7_lay 185 = .ok (.bipush 60, 2) := by decide +kernel
theorem dX7_lay_187 : decode cX7_lay 187 = .ok (.iload_n 1, 1) := by decide +kernel
theorem dX7_lay_188 : decode cX7_lay 188 = .ok (.imul, 1) := by decide +kernel
theorem dX7_lay_189 : decode cX7_lay 189 = .ok (.iload_n 3, 1) := by decide +kernel
theorem dX7_lay_190 : decode cX7_lay 190 = .ok (.iadd, 1) := by decide +kernel
theorem dX7_lay_191 : decode cX7_lay 191 = .ok (.iload 8, 2) := by decide +kernel
theorem dX7_lay_193 : decode cX7_lay 193 = .ok (.iadd, 1) := by decide +kernel
theorem dX7_lay_194 : decode cX7_lay 194 = .ok (.iaload, 1) := by decide +kernel
theorem dX7_lay_195 : decode cX7_lay 195 = .ok (.iastore, 1) := by decide +kernel
theorem dX7_lay_196 : decode cX7_lay 196 = .ok (.iinc 8 1, 3) := by decide +kernel
theorem dX7_lay_199 : decode cX7_lay 199 = .ok (.goto (-39), 3) := by decide +kernel
theorem dX7_lay_202 : decode cX7_lay 202 = .ok (.aload_n 0, 1) := by decide +kernel
theorem dX7_lay_203 : decode cX7_lay 203 = .ok (.aload_n 0, 1) := by decide +kernel
theorem dX7_lay_204 : decode cX7_lay 204 = .ok (.getfield 110, 3) := by decide +kernel
theorem dX7_lay_207 : decode cX7_lay 207 = .ok (.ifCond .ne 8, 3) := by decide +kernel
theorem dX7_lay_210 : decode cX7_lay 210 = .ok (.iload 4, 2) := by decide +kernel
theorem dX7_lay_212 : decode cX7_lay 212 = .ok (.ifCond .le 7, 3) := by decide +kernel
theorem dX7_lay_215 : decode cX7_lay 215 = .ok (.iconst 1, 1) := by decide +kernel
theorem dX7_lay_216 : decode cX7_lay 216 = .ok (.goto 4, 3) := by decide +kernel
theorem dX7_lay_219 : decode cX7_lay 219 = .ok (.iconst 0, 1) := by decide +kernel
theorem dX7_lay_220 : decode cX7_lay 220 = .ok (.putfield 110, 3) := by decide +kernel
theorem dX7_lay_223 : decode cX7_lay 223 = .ok (.iload 4, 2) := by decide +kernel
theorem dX7_lay_225 : decode cX7_lay 225 = .ok (.ireturn, 1) := by decide +kernel
set_option maxRecDepth 20000 in
theorem ggX7_copy_X7_isSheet : GoodIn wsX7_copy wsX7_isSheet := goodIn_r _ [7, 8, 9, 6, 10] (by decide +kernel) (by decide +kernel)
set_option maxRecDepth 20000 in
theorem gX7_copy_X7_isSheet : GoodIn wsX7_copy (va_wsS RX7 180 yX7_isSheet wsX7_isSheet) := goodIn_app (goodIn_of _ (by decide +kernel)) ggX7_copy_X7_isSheet
set_option maxRecDepth 20000 in
theorem ggX7_copy_X7_isWithin : GoodIn wsX7_copy wsX7_isWithin := goodIn_r _ [14, 15, 16, 17, 18, 19, 20, 21, 22, 23, 24, 25, 26, 27, 28, 29, 30, 31, 32, 33, 34, 35, 36, 37, 38, 39, 40, 41, 42, 43, 44, 45, 46, 47, 48] (by decide +kernel) (by decide +kernel)
set_option maxRecDepth 20000 in
theorem gX7_copy_X7_isWithin : GoodIn wsX7_copy (wsV RX7 183 RX7 yX7_isWithin wsX7_isWithin) := goodIn_app (goodIn_of _ (by decide +kernel)) ggX7_copy_X7_isWithin
theorem dX7_copy_0 : decode cX7_copy 0 = .ok (.iload_n 1, 1) := by decide +kernel
theorem dX7_copy_1 : decode cX7_copy 1 = .ok (.invokestatic 180, 3) := by decide +kernel
theorem dX7_copy_4 : decode cX7_copy 4 = .ok (.ifCond .eq 10, 3) := by decide +kernel
theorem dX7_copy_7 : decode cX7_copy 7 = .ok (.iload_n 3, 1) := by decide +kernel
theorem dX7_copy_8 : decode cX7_copy 8 = .ok (.invokestatic 180, 3) := by decide +kernel
theorem dX7_copy_11 : decode cX7_copy 11 = .ok (.ifCond .ne 5, 3) := by decide +kernel
theorem dX7_copy_14 : decode cX7_copy 14 = .ok (.iconst (-1), 1) := by decide +kernel
theorem dX7_copy_15 : decode cX7_copy 15 = .ok (.ireturn, 1) := by decide +kernel
theorem dX7_copy_16 : decode cX7_copy 16 = .ok (.aload_n 0, 1) := by decide +kernel
theorem dX7_copy_17 : decode cX7_copy 17 = .ok (.getfield 61, 3) := by decide +kernel
theorem dX7_copy_20 : decode cX7_copy 20 = .ok (.iload_n 1, 1) := by decide +kernel
theorem dX7_copy_21 : decode cX7_copy 21 = .ok (.iaload, 1) := by decide +kernel
theorem dX7_copy_22 : decode cX7_copy 22 = .ok (.ifCond .lt 12, 3) := by decide +kernel
theorem dX7_copy_25 : decode cX7_copy 25 = .ok (.aload_n 0, 1) := by decide +kernel
theorem dX7_copy_26 : decode cX7_copy 26 = .ok (.getfield 61, 3) := by decide +kernel
theorem dX7_copy_29 : decode cX7_copy 29 = .ok (.iload_n 3, 1) := by decide +kernel
theorem dX7_copy_30 : decode cX7_copy 30 = .ok (.iaload, 1) := by decide +kernel
theorem dX7_copy_31 : decode cX7_copy 31 = .ok (.ifCond .ge 6, 3) := by decide +kernel
theorem dX7_copy_34 : decode cX7_copy 34 = .ok (.bipush (-11), 2) := by decide +kernel
theorem dX7_copy_36 : decode cX7_copy 36 = .ok (.ireturn, 1) := by decide +kernel
theorem dX7_copy_37 : decode cX7_copy 37 = .ok (.aload_n 0, 1) := by decide +kernel
theorem dX7_copy_38 : decode cX7_copy 38 = .ok (.getfield 61, 3) := by decide +kernel
theorem dX7_copy_41 : decode cX7_copy 41 = .ok (.iload_n 1, 1) := by decide +kernel
theorem dX7_copy_42 : decode cX7_copy 42 = .ok (.iaload, 1) := by decide +kernel
theorem dX7_copy_43 : decode cX7_copy 43 = .ok (.aload_n 0, 1) := by decide +kernel
theorem dX7_copy_44 : decode cX7_copy 44 = .ok (.getfield 61, 3) := by decide +kernel
theorem dX7_copy_47 : decode cX7_copy 47 = .ok (.iload_n 3, 1) := by decide +kernel
theorem dX7_copy_48 : decode cX7_copy 48 = .ok (.iaload, 1) := by decide +kernel
theorem dX7_copy_49 : decode cX7_copy 49 = .ok (.if_icmp .eq 6, 3) := by decide +kernel
theorem dX7_copy_52 : decode cX7_copy 52 = .ok (.bipush (-12), 2) := by decide +kernel
theorem dX7_copy_54 : decode cX7_copy 54 = .ok (.ireturn, 1) := by decide +kernel
theorem dX7_copy_55 : decode cX7_copy 55 = .ok (.iload 5, 2) := by decide +kernel
theorem dX7_copy_57 : decode cX7_copy 57 = .ok (.ifCond .lt 26, 3) := by decide +kernel
theorem dX7_copy_60 : decode cX7_copy 60 = .ok (.aload_n 0, 1) := by decide +kernel
theorem dX7_copy_61 : decode cX7_copy 61 = .ok (.iload_n 1, 1) := by decide +kernel
theorem dX7_copy_62 : decode cX7_copy 62 = .ok (.iload_n 2, 1) := by decide +kernel
theorem dX7_copy_63 : decode cX7_copy 63 = .ok (.iload 5, 2) := by decide +kernel
theorem dX7_copy_65 : decode cX7_copy 65 = .ok (.invokevirtual 183, 3) := by decide +kernel
theorem dX7_copy_68 : decode cX7_copy 68 = .ok (.ifCond .eq 15, 3) := by decide +kernel
theorem dX7_copy_71 : decode cX7_copy 71 = .ok (.aload_n 0, 1) := by decide +kernel
theorem dX7_copy_72 : decode cX7_copy 72 = .ok (.iload_n 3, 1) := by decide +kernel
theorem dX7_copy_73 : decode cX7_copy 73 = .ok (.iload 4, 2) := by decide +kernel
theorem dX7_copy_75 : decode cX7_copy 75 = .ok (.iload 5, 2) := by decide +kernel
theorem dX7_copy_77 : decode cX7_copy 77 = .ok (.invokevirtual 183, 3) := by decide +kernel
theorem dX7_copy_80 : decode cX7_copy 80 = .ok (.ifCond .ne 6, 3) := by decide +kernel
theorem dX7_copy_83 : decode cX7_copy 83 = .ok (.bipush (-13), 2) := by decide +kernel
theorem dX7_copy_85 : decode cX7_copy 85 = .ok (.ireturn, 1) := by decide +kernel
theorem dX7_copy_86 : decode cX7_copy 86 = .ok (.iconst 0, 1) := by decide +kernel
theorem dX7_copy_87 : decode cX7_copy 87 = .ok (.istore 6, 2) := by decide +kernel
theorem dX7_copy_89 : decode cX7_copy 89 = .ok (.iload 6, 2) := by decide +kernel
theorem dX7_copy_91 : decode cX7_copy 91 = .ok (.iload 5, 2) := by decide +kernel
theorem dX7_copy_93 : decode cX7_copy 93 = .ok (.if_icmp .ge 30, 3) := by decide +kernel
theorem dX7_copy_96 : decode cX7_copy 96 = .ok (.aload_n 0, 1) := by decide +kernel
theorem dX7_copy_97 : decode cX7_copy 97 = .ok (.getfield 70, 3) := by decide +kernel
theorem dX7_copy_100 : decode cX7_copy 100 = .ok (.iload 6, 2) := by decide +kernel
theorem dX7_copy_102 : decode cX7_copy 102 = .ok (.aload_n 0, 1) := by decide +kernel
theorem dX7_copy_103 : decode cX7_copy 103 = .ok (.getfield 67, 3) := by decide +kernel
theorem dX7_copy_106 : decode cX7_copy 106 = .ok (.bipush 60, 2) := by decide +kernel
theorem dX7_copy_108 : decode cX7_copy 108 = .ok (.iload_n 1, 1) := by decide +kernel
theorem dX7_copy_109 : decode cX7_copy 109 = .ok (.imul, 1) := by decide +kernel
theorem dX7_copy_110 : decode cX7_copy 110 = .ok (.iload_n 2, 1) := by decide +kernel
theorem dX7_copy_111 : decode cX7_copy 111 = .ok (.iadd, 1) := by decide +kernel
theorem dX7_copy_112 : decode cX7_copy 112 = .ok (.iload 6, 2) := by decide +kernel
theorem dX7_copy_114 : decode cX7_copy 114 = .ok (.iadd, 1) := by decide +kernel
theorem dX7_copy_115 : decode cX7_copy 115 = .ok (.iaload, 1) := by decide +kernel
theorem dX7_copy_116 : decode cX7_copy 116 = .ok (.iastore, 1) := by decide +kernel
theorem dX7_copy_117 : decode cX7_copy 117 = .ok (.iinc 6 1, 3) := by decide +kernel
theorem dX7_copy_120 : decode cX7_copy 120 = .ok (.goto (-31), 3) := by decide +kernel
theorem dX7_copy_123 : decode cX7_copy 123 = .ok (.iconst 0, 1) := by decide +kernel
theorem dX7_copy_124 : decode cX7_copy 124 = .ok (.istore 6, 2) := by decide +kernel
theorem dX7_copy_126 : decode cX7_copy 126 = .ok (.iload 6, 2) := by decide +kernel
theorem dX7_copy_128 : decode cX7_copy 128 = .ok (.iload 5, 2) := by decide +kernel
theorem dX7_copy_130 : decode cX7_copy 130 = .ok (.if_icmp .ge 31, 3) := by decide +kernel
theorem dX7_copy_133 : decode cX7_copy 133 = .ok (.aload_n 0, 1) := by decide +kernel
theorem dX7_copy_134 : decode cX7_copy 134 = .ok (.getfield 67, 3) := by decide +kernel
theorem dX7_copy_137 : decode cX7_copy 137 = .ok (.bipush 60, 2) := by decide +kernel
theorem dX7_copy_139 : decode cX7_copy 139 = .ok (.iload_n 3, 1) := by decide +kernel
theorem dX7_copy_140 : decode cX7_copy 140 = .ok (.imul, 1) := by decide +kernel
theorem dX7_copy_141 : decode cX7_copy 141 = .ok (.iload 4, 2) := by decide +kernel
theorem dX7_copy_143 : decode cX7_copy 143 = .ok (.iadd, 1) := by decide +kernel
theorem dX7_copy_144 : decode cX7_copy 144 = .ok (.iload 6, 2) := by decide +kernel
theorem dX7_copy_146 : decode cX7_copy 146 = .ok (.iadd, 1) := by decide +kernel
theorem dX7_copy_147 : decode cX7_copy 147 = .ok (.aload_n 0, 1) := by decide +kernel
theorem dX7_copy_148 : decode cX7_copy 148 = .ok (.getfield 70, 3) := by decide +kernel
theorem dX7_copy_151 : decode cX7_copy 151 = .ok (.iload 6, 2) := by decide +kernel
theorem dX7_copy_153 : decode cX7_copy 153 = .ok (.iaload, 1) := by decide +kernel
theorem dX7_copy_154 : decode cX7_copy 154 = .ok (.iastore, 1) := by decide +kernel
theorem dX7_copy_155 : decode cX7_copy 155 = .ok (.iinc 6 1, 3) := by decide +kernel
theorem dX7_copy_158 : decode cX7_copy 158 = .ok (.goto (-32), 3) := by decide +kernel
theorem dX7_copy_161 : decode cX7_copy 161 = .ok (.iload 5, 2) := by decide +kernel
theorem dX7_copy_163 : decode cX7_copy 163 = .ok (.ireturn, 1) := by decide +kernel
theorem dJ7_fill_53178_0 : decode cJ7_fill_53178 0 = .ok (.iconst 0, 1) := by decide +kernel
theorem dJ7_fill_53178_1 : decode cJ7_fill_53178 1 = .ok (.istore_n 2, 1) := by decide +kernel
theorem dJ7_fill_53178_2 : decode cJ7_fill_53178 2 = .ok (.aload_n 0, 1) := by decide +kernel
theorem dJ7_fill_53178_3 : decode cJ7_fill_53178 3 = .ok (.arraylength, 1) := by decide +kernel
theorem dJ7_fill_53178_4 : decode cJ7_fill_53178 4 = .ok (.istore_n 3, 1) := by decide +kernel
theorem dJ7_fill_53178_5 : decode cJ7_fill_53178 5 = .ok (.iload_n 2, 1) := by decide +kernel
theorem dJ7_fill_53178_6 : decode cJ7_fill_53178 6 = .ok (.iload_n 3, 1) := by decide +kernel
theorem dJ7_fill_53178_7 : decode cJ7_fill_53178 7 = .ok (.if_icmp .ge 13, 3) := by decide +kernel
theorem dJ7_fill_53178_10 : decode cJ7_fill_53178 10 = .ok (.aload_n 0, 1) := by decide +kernel
theorem dJ7_fill_53178_11 : decode cJ7_fill_53178 11 = .ok (.iload_n 2, 1) := by decide +kernel
theorem dJ7_fill_53178_12 : decode cJ7_fill_53178 12 = .ok (.iload_n 1, 1) := by decide +kernel
theorem dJ7_fill_53178_13 : decode cJ7_fill_53178 13 = .ok (.iastore, 1) := by decide +kernel
theorem dJ7_fill_53178_14 : decode cJ7_fill_53178 14 = .ok (.iinc 2 1, 3) := by decide +kernel
theorem dJ7_fill_53178_17 : decode cJ7_fill_53178 17 = .ok (.goto (-12), 3) := by decide +kernel
theorem dJ7_fill_53178_20 : decode cJ7_fill_53178 20 = .ok (.return_, 1) := by decide +kernel
