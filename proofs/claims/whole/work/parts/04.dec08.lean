theorem dX6_grow_131 : decode cX6_grow 131 = .ok (.getfield 125, 3) := by decide +kernel
theorem dX6_grow_134 : decode cX6_grow 134 = .ok (.aload_n 0, 1) := by decide +kernel
theorem dX6_grow_135 : decode cX6_grow 135 = .ok (.getfield 49, 3) := by decide +kernel
theorem dX6_grow_138 : decode cX6_grow 138 = .ok (.iload_n 2, 1) := by decide +kernel
theorem dX6_grow_139 : decode cX6_grow 139 = .ok (.iaload, 1) := by decide +kernel
theorem dX6_grow_140 : decode cX6_grow 140 = .ok (.baload, 1) := by decide +kernel
theorem dX6_grow_141 : decode cX6_grow 141 = .ok (.ifCond .eq 46, 3) := by decide +kernel
theorem dX6_grow_144 : decode cX6_grow 144 = .ok (.aload_n 0, 1) := by decide +kernel
theorem dX6_grow_145 : decode cX6_grow 145 = .ok (.getfield 71, 3) := by decide +kernel
theorem dX6_grow_148 : decode cX6_grow 148 = .ok (.iload_n 2, 1) := by decide +kernel
theorem dX6_grow_149 : decode cX6_grow 149 = .ok (.iaload, 1) := by decide +kernel
theorem dX6_grow_150 : decode cX6_grow 150 = .ok (.aload_n 0, 1) := by decide +kernel
theorem dX6_grow_151 : decode cX6_grow 151 = .ok (.getfield 89, 3) := by decide +kernel
theorem dX6_grow_154 : decode cX6_grow 154 = .ok (.iload_n 2, 1) := by decide +kernel
theorem dX6_grow_155 : decode cX6_grow 155 = .ok (.iaload, 1) := by decide +kernel
theorem dX6_grow_156 : decode cX6_grow 156 = .ok (.aload_n 0, 1) := by decide +kernel
theorem dX6_grow_157 : decode cX6_grow 157 = .ok (.getfield 95, 3) := by decide +kernel
theorem dX6_grow_160 : decode cX6_grow 160 = .ok (.iload_n 2, 1) := by decide +kernel
theorem dX6_grow_161 : decode cX6_grow 161 = .ok (.iaload, 1) := by decide +kernel
theorem dX6_grow_162 : decode cX6_grow 162 = .ok (.if_icmp .le 12, 3) := by decide +kernel
theorem dX6_grow_165 : decode cX6_grow 165 = .ok (.aload_n 0, 1) := by decide +kernel
theorem dX6_grow_166 : decode cX6_grow 166 = .ok (.getfield 89, 3) := by decide +kernel
theorem dX6_grow_169 : decode cX6_grow 169 = .ok (.iload_n 2, 1) := by decide +kernel
theorem dX6_grow_170 : decode cX6_grow 170 = .ok (.iaload, 1) := by decide +kernel
theorem dX6_grow_171 : decode cX6_grow 171 = .ok (.goto 9, 3) := by decide +kernel
theorem dX6_grow_174 : decode cX6_grow 174 = .ok (.aload_n 0, 1) := by decide +kernel
theorem dX6_grow_175 : decode cX6_grow 175 = .ok (.getfield 95, 3) := by decide +kernel
theorem dX6_grow_178 : decode cX6_grow 178 = .ok (.iload_n 2, 1) := by decide +kernel
theorem dX6_grow_179 : decode cX6_grow 179 = .ok (.iaload, 1) := by decide +kernel
theorem dX6_grow_180 : decode cX6_grow 180 = .ok (.if_icmp .le 7, 3) := by decide +kernel
theorem dX6_grow_183 : decode cX6_grow 183 = .ok (.iconst 1, 1) := by decide +kernel
theorem dX6_grow_184 : decode cX6_grow 184 = .ok (.goto 4, 3) := by decide +kernel
theorem dX6_grow_187 : decode cX6_grow 187 = .ok (.iconst 0, 1) := by decide +kernel
theorem dX6_grow_188 : decode cX6_grow 188 = .ok (.istore 4, 2) := by decide +kernel
theorem dX6_grow_190 : decode cX6_grow 190 = .ok (.iload_n 3, 1) := by decide +kernel
theorem dX6_grow_191 : decode cX6_grow 191 = .ok (.ifCond .eq 31, 3) := by decide +kernel
theorem dX6_grow_194 : decode cX6_grow 194 = .ok (.aload_n 0, 1) := by decide +kernel
theorem dX6_grow_195 : decode cX6_grow 195 = .ok (.getfield 122, 3) := by decide +kernel
theorem dX6_grow_198 : decode cX6_grow 198 = .ok (.aload_n 0, 1) := by decide +kernel
theorem dX6_grow_199 : decode cX6_grow 199 = .ok (.getfield 49, 3) := by decide +kernel
theorem dX6_grow_202 : decode cX6_grow 202 = .ok (.iload_n 2, 1) := by decide +kernel
theorem dX6_grow_203 : decode cX6_grow 203 = .ok (.iaload, 1) := by decide +kernel
theorem dX6_grow_204 : decode cX6_grow 204 = .ok (.baload, 1) := by decide +kernel
theorem dX6_grow_205 : decode cX6_grow 205 = .ok (.ifCond .ne 17, 3) := by decide +kernel
theorem dX6_grow_208 : decode cX6_grow 208 = .ok (.aload_n 0, 1) := by decide +kernel
theorem dX6_grow_209 : decode cX6_grow 209 = .ok (.getfield 122, 3) := by decide +kernel
theorem dX6_grow_212 : decode cX6_grow 212 = .ok (.aload_n 0, 1) := by decide +kernel
theorem dX6_grow_213 : decode cX6_grow 213 = .ok (.getfield 49, 3) := by decide +kernel
theorem dX6_grow_216 : decode cX6_grow 216 = .ok (.iload_n 2, 1) := by decide +kernel
theorem dX6_grow_217 : decode cX6_grow 217 = .ok (.iaload, 1) := by decide +kernel
theorem dX6_grow_218 : decode cX6_grow 218 = .ok (.iconst 1, 1) := by decide +kernel
theorem dX6_grow_219 : decode cX6_grow 219 = .ok (.bastore, 1) := by decide +kernel
theorem dX6_grow_220 : decode cX6_grow 220 = .ok (.iconst 1, 1) := by decide +kernel
theorem dX6_grow_221 : decode cX6_grow 221 = .ok (.istore_n 1, 1) := by decide +kernel
theorem dX6_grow_222 : decode cX6_grow 222 = .ok (.iload 4, 2) := by decide +kernel
theorem dX6_grow_224 : decode cX6_grow 224 = .ok (.ifCond .eq 31, 3) := by decide +kernel
theorem dX6_grow_227 : decode cX6_grow 227 = .ok (.aload_n 0, 1) := by decide +kernel
theorem dX6_grow_228 : decode cX6_grow 228 = .ok (.getfield 122, 3) := by decide +kernel
theorem dX6_grow_231 : decode cX6_grow 231 = .ok (.aload_n 0, 1) := by decide +kernel
theorem dX6_grow_232 : decode cX6_grow 232 = .ok (.getfield 52, 3) := by decide +kernel
theorem dX6_grow_235 : decode cX6_grow 235 = .ok (.iload_n 2, 1) := by decide +kernel
theorem dX6_grow_236 : decode cX6_grow 236 = .ok (.iaload, 1) := by decide +kernel
theorem dX6_grow_237 : decode cX6_grow 237 = .ok (.baload, 1) := by decide +kernel
theorem dX6_grow_238 : decode cX6_grow 238 = .ok (.ifCond .ne 17, 3) := by decide +kernel
theorem dX6_grow_241 : decode cX6_grow 241 = .ok (.aload_n 0, 1) := by decide +kernel
theorem dX6_grow_242 : decode cX6_grow 242 = .ok (.getfield 122, 3) := by decide +kernel
theorem dX6_grow_245 : decode cX6_grow 245 = .ok (.aload_n 0, 1) := by decide +kernel
theorem dX6_grow_246 : decode cX6_grow 246 = .ok (.getfield 52, 3) := by decide +kernel
theorem dX6_grow_249 : decode cX6_grow 249 = .ok (.iload_n 2, 1) := by decide +kernel
theorem dX6_grow_250 : decode cX6_grow 250 = .ok (.iaload, 1) := by decide +kernel
theorem dX6_grow_251 : decode cX6_grow 251 = .ok (.iconst 1, 1) := by decide +kernel
theorem dX6_grow_252 : decode cX6_grow 252 = .ok (.bastore, 1) := by decide +kernel
theorem dX6_grow_253 : decode cX6_grow 253 = .ok (.iconst 1, 1) := by decide +kernel
theorem dX6_grow_254 : decode cX6_grow 254 = .ok (.istore_n 1, 1) := by decide +kernel
theorem dX6_grow_255 : decode cX6_grow 255 = .ok (.iinc 2 1, 3) := by decide +kernel
theorem dX6_grow_258 : decode cX6_grow 258 = .ok (.goto (-197), 3) := by decide +kernel
theorem dX6_grow_261 : decode cX6_grow 261 = .ok (.goto (-259), 3) := by decide +kernel
theorem dX6_grow_264 : decode cX6_grow 264 = .ok (.return_, 1) := by decide +kernel
theorem dX6_isUnsteady_0 : decode cX6_isUnsteady 0 = .ok (.aload_n 0, 1) := by decide +kernel
theorem dX6_isUnsteady_1 : decode cX6_isUnsteady 1 = .ok (.getfield 7, 3) := by decide +kernel
theorem dX6_isUnsteady_4 : decode cX6_isUnsteady 4 = .ok (.iload_n 1, 1) := by decide +kernel
theorem dX6_isUnsteady_5 : decode cX6_isUnsteady 5 = .ok (.iaload, 1) := by decide +kernel
theorem dX6_isUnsteady_6 : decode cX6_isUnsteady 6 = .ok (.iconst 4, 1) := by decide +kernel
theorem dX6_isUnsteady_7 : decode cX6_isUnsteady 7 = .ok (.if_icmp .ne 7, 3) := by decide +kernel
theorem dX6_isUnsteady_10 : decode cX6_isUnsteady 10 = .ok (.iconst 1, 1) := by decide +kernel
theorem dX6_isUnsteady_11 : decode cX6_isUnsteady 11 = .ok (.goto 4, 3) := by decide +kernel
theorem dX6_isUnsteady_14 : decode cX6_isUnsteady 14 = .ok (.iconst 0, 1) := by decide +kernel
theorem dX6_isUnsteady_15 : decode cX6_isUnsteady 15 = .ok (.istore_n 2, 1) := by decide +kernel
theorem dX6_isUnsteady_16 : decode cX6_isUnsteady 16 = .ok (.iconst 0, 1) := by decide +kernel
theorem dX6_isUnsteady_17 : decode cX6_isUnsteady 17 = .ok (.istore_n 3, 1) := by decide +kernel
theorem dX6_isUnsteady_18 : decode cX6_isUnsteady 18 = .ok (.iload_n 3, 1) := by decide +kernel
theorem dX6_isUnsteady_19 : decode cX6_isUnsteady 19 = .ok (.aload_n 0, 1) := by decide +kernel
theorem dX6_isUnsteady_20 : decode cX6_isUnsteady 20 = .ok (.getfield 135, 3) := by decide +kernel
theorem dX6_isUnsteady_23 : decode cX6_isUnsteady 23 = .ok (.if_icmp .ge 43, 3) := by decide +kernel
theorem dX6_isUnsteady_26 : decode cX6_isUnsteady 26 = .ok (.iload_n 2, 1) := by decide +kernel
theorem dX6_isUnsteady_27 : decode cX6_isUnsteady 27 = .ok (.ifCond .ne 27, 3) := by decide +kernel
theorem dX6_isUnsteady_30 : decode cX6_isUnsteady 30 = .ok (.aload_n 0, 1) := by decide +kernel
theorem dX6_isUnsteady_31 : decode cX6_isUnsteady 31 = .ok (.getfield 52, 3) := by decide +kernel
theorem dX6_isUnsteady_34 : decode cX6_isUnsteady 34 = .ok (.iload_n 3, 1) := by decide +kernel
theorem dX6_isUnsteady_35 : decode cX6_isUnsteady 35 = .ok (.iaload, 1) := by decide +kernel
theorem dX6_isUnsteady_36 : decode cX6_isUnsteady 36 = .ok (.iload_n 1, 1) := by decide +kernel
theorem dX6_isUnsteady_37 : decode cX6_isUnsteady 37 = .ok (.if_icmp .ne 21, 3) := by decide +kernel
theorem dX6_isUnsteady_40 : decode cX6_isUnsteady 40 = .ok (.aload_n 0, 1) := by decide +kernel
theorem dX6_isUnsteady_41 : decode cX6_isUnsteady 41 = .ok (.getfield 125, 3) := by decide +kernel
theorem dX6_isUnsteady_44 : decode cX6_isUnsteady 44 = .ok (.aload_n 0, 1) := by decide +kernel
theorem dX6_isUnsteady_45 : decode cX6_isUnsteady 45 = .ok (.getfield 49, 3) := by decide +kernel
theorem dX6_isUnsteady_48 : decode cX6_isUnsteady 48 = .ok (.iload_n 3, 1) := by decide +kernel
theorem dX6_isUnsteady_49 : decode cX6_isUnsteady 49 = .ok (.iaload, 1) := by decide +kernel
theorem dX6_isUnsteady_50 : decode cX6_isUnsteady 50 = .ok (.baload, 1) := by decide +kernel
theorem dX6_isUnsteady_51 : decode cX6_isUnsteady 51 = .ok (.ifCond .eq 7, 3) := by decide +kernel
theorem dX6_isUnsteady_54 : decode cX6_isUnsteady 54 = .ok (.iconst 1, 1) := by decide +kernel
theorem dX6_isUnsteady_55 : decode cX6_isUnsteady 55 = .ok (.goto 4, 3) := by decide +kernel
theorem dX6_isUnsteady_58 : decode cX6_isUnsteady 58 = .ok (.iconst 0, 1) := by decide +kernel
theorem dX6_isUnsteady_59 : decode cX6_isUnsteady 59 = .ok (.istore_n 2, 1) := by decide +kernel
theorem dX6_isUnsteady_60 : decode cX6_isUnsteady 60 = .ok (.iinc 3 1, 3) := by decide +kernel
theorem dX6_isUnsteady_63 : decode cX6_isUnsteady 63 = .ok (.goto (-45), 3) := by decide +kernel
theorem dX6_isUnsteady_66 : decode cX6_isUnsteady 66 = .ok (.iload_n 2, 1) := by decide +kernel
theorem dX6_isUnsteady_67 : decode cX6_isUnsteady 67 = .ok (.ireturn, 1) := by decide +kernel
theorem dX6_beginAgain_0 : decode cX6_beginAgain 0 = .ok (.iload_n 1, 1) := by decide +kernel
theorem dX6_beginAgain_1 : decode cX6_beginAgain 1 = .ok (.iconst 4, 1) := by decide +kernel
theorem dX6_beginAgain_2 : decode cX6_beginAgain 2 = .ok (.if_icmp .le 8, 3) := by decide +kernel
theorem dX6_beginAgain_5 : decode cX6_beginAgain 5 = .ok (.bipush 16, 2) := by decide +kernel
theorem dX6_beginAgain_7 : decode cX6_beginAgain 7 = .ok (.goto 8, 3) := by decide +kernel
theorem dX6_beginAgain_10 : decode cX6_beginAgain 10 = .ok (.iconst 1, 1) := by decide +kernel
theorem dX6_beginAgain_11 : decode cX6_beginAgain 11 = .ok (.iload_n 1, 1) := by decide +kernel
theorem dX6_beginAgain_12 : decode cX6_beginAgain 12 = .ok (.iconst 1, 1) := by decide +kernel
theorem dX6_beginAgain_13 : decode cX6_beginAgain 13 = .ok (.isub, 1) := by decide +kernel
theorem dX6_beginAgain_14 : decode cX6_beginAgain 14 = .ok (.ishl, 1) := by decide +kernel
theorem dX6_beginAgain_15 : decode cX6_beginAgain 15 = .ok (.istore_n 2, 1) := by decide +kernel
theorem dX6_beginAgain_16 : decode cX6_beginAgain 16 = .ok (.iconst 0, 1) := by decide +kernel
theorem dX6_beginAgain_17 : decode cX6_beginAgain 17 = .ok (.istore_n 3, 1) := by decide +kernel
theorem dX6_beginAgain_18 : decode cX6_beginAgain 18 = .ok (.iconst 0, 1) := by decide +kernel
theorem dX6_beginAgain_19 : decode cX6_beginAgain 19 = .ok (.istore 4, 2) := by decide +kernel
theorem dX6_beginAgain_21 : decode cX6_beginAgain 21 = .ok (.iload 4, 2) := by decide +kernel
theorem dX6_beginAgain_23 : decode cX6_beginAgain 23 = .ok (.aload_n 0, 1) := by decide +kernel
theorem dX6_beginAgain_24 : decode cX6_beginAgain 24 = .ok (.getfield 131, 3) := by decide +kernel
theorem dX6_beginAgain_27 : decode cX6_beginAgain 27 = .ok (.if_icmp .ge 103, 3) := by decide +kernel
theorem dX6_beginAgain_30 : decode cX6_beginAgain 30 = .ok (.aload_n 0, 1) := by decide +kernel
theorem dX6_beginAgain_31 : decode cX6_beginAgain 31 = .ok (.getfield 122, 3) := by decide +kernel
theorem dX6_beginAgain_34 : decode cX6_beginAgain 34 = .ok (.iload 4, 2) := by decide +kernel
theorem dX6_beginAgain_36 : decode cX6_beginAgain 36 = .ok (.baload, 1) := by decide +kernel
theorem dX6_beginAgain_37 : decode cX6_beginAgain 37 = .ok (.ifCond .eq 87, 3) := by decide +kernel
theorem dX6_beginAgain_40 : decode cX6_beginAgain 40 = .ok (.aload_n 0, 1) := by decide +kernel
theorem dX6_beginAgain_41 : decode cX6_beginAgain 41 = .ok (.getfield 19, 3) := by decide +kernel
theorem dX6_beginAgain_44 : decode cX6_beginAgain 44 = .ok (.iload 4, 2) := by decide +kernel
theorem dX6_beginAgain_46 : decode cX6_beginAgain 46 = .ok (.aload_n 0, 1) := by decide +kernel
theorem dX6_beginAgain_47 : decode cX6_beginAgain 47 = .ok (.getfield 80, 3) := by decide +kernel
theorem dX6_beginAgain_50 : decode cX6_beginAgain 50 = .ok (.iload 4, 2) := by decide +kernel
theorem dX6_beginAgain_52 : decode cX6_beginAgain 52 = .ok (.iaload, 1) := by decide +kernel
theorem dX6_beginAgain_53 : decode cX6_beginAgain 53 = .ok (.iastore, 1) := by decide +kernel
theorem dX6_beginAgain_54 : decode cX6_beginAgain 54 = .ok (.aload_n 0, 1) := by decide +kernel
theorem dX6_beginAgain_55 : decode cX6_beginAgain 55 = .ok (.getfield 22, 3) := by decide +kernel
theorem dX6_beginAgain_58 : decode cX6_beginAgain 58 = .ok (.iload 4, 2) := by decide +kernel
theorem dX6_beginAgain_60 : decode cX6_beginAgain 60 = .ok (.aload_n 0, 1) := by decide +kernel
theorem dX6_beginAgain_61 : decode cX6_beginAgain 61 = .ok (.getfield 83, 3) := by decide +kernel
theorem dX6_beginAgain_64 : decode cX6_beginAgain 64 = .ok (.iload 4, 2) := by decide +kernel
theorem dX6_beginAgain_66 : decode cX6_beginAgain 66 = .ok (.iaload, 1) := by decide +kernel
theorem dX6_beginAgain_67 : decode cX6_beginAgain 67 = .ok (.iastore, 1) := by decide +kernel
theorem dX6_beginAgain_68 : decode cX6_beginAgain 68 = .ok (.aload_n 0, 1) := by decide +kernel
theorem dX6_beginAgain_69 : decode cX6_beginAgain 69 = .ok (.getfield 25, 3) := by decide +kernel
theorem dX6_beginAgain_72 : decode cX6_beginAgain 72 = .ok (.iload 4, 2) := by decide +kernel
theorem dX6_beginAgain_74 : decode cX6_beginAgain 74 = .ok (.aload_n 0, 1) := by decide +kernel
theorem dX6_beginAgain_75 : decode cX6_beginAgain 75 = .ok (.getfield 86, 3) := by decide +kernel
theorem dX6_beginAgain_78 : decode cX6_beginAgain 78 = .ok (.iload 4, 2) := by decide +kernel
theorem dX6_beginAgain_80 : decode cX6_beginAgain 80 = .ok (.iaload, 1) := by decide +kernel
theorem dX6_beginAgain_81 : decode cX6_beginAgain 81 = .ok (.iastore, 1) := by decide +kernel
theorem dX6_beginAgain_82 : decode cX6_beginAgain 82 = .ok (.aload_n 0, 1) := by decide +kernel
theorem dX6_beginAgain_83 : decode cX6_beginAgain 83 = .ok (.getfield 40, 3) := by decide +kernel
theorem dX6_beginAgain_86 : decode cX6_beginAgain 86 = .ok (.iload 4, 2) := by decide +kernel
theorem dX6_beginAgain_88 : decode cX6_beginAgain 88 = .ok (.aload_n 0, 1) := by decide +kernel
theorem dX6_beginAgain_89 : decode cX6_beginAgain 89 = .ok (.getfield 40, 3) := by decide +kernel
theorem dX6_beginAgain_92 : decode cX6_beginAgain 92 = .ok (.iload 4, 2) := by decide +kernel
theorem dX6_beginAgain_94 : decode cX6_beginAgain 94 = .ok (.iaload, 1) := by decide +kernel
theorem dX6_beginAgain_95 : decode cX6_beginAgain 95 = .ok (.aload_n 0, 1) := by decide +kernel
theorem dX6_beginAgain_96 : decode cX6_beginAgain 96 = .ok (.getfield 148, 3) := by decide +kernel
theorem dX6_beginAgain_99 : decode cX6_beginAgain 99 = .ok (.iload_n 2, 1) := by decide +kernel
theorem dX6_beginAgain_100 : decode cX6_beginAgain 100 = .ok (.iadd, 1) := by decide +kernel
theorem dX6_beginAgain_101 : decode cX6_beginAgain 101 = .ok (.if_icmp .le 13, 3) := by decide +kernel
theorem dX6_beginAgain_104 : decode cX6_beginAgain 104 = .ok (.aload_n 0, 1) := by decide +kernel
theorem dX6_beginAgain_105 : decode cX6_beginAgain 105 = .ok (.getfield 40, 3) := by decide +kernel
theorem dX6_beginAgain_108 : decode cX6_beginAgain 108 = .ok (.iload 4, 2) := by decide +kernel
theorem dX6_beginAgain_110 : decode cX6_beginAgain 110 = .ok (.iaload, 1) := by decide +kernel
theorem dX6_beginAgain_111 : decode cX6_beginAgain 111 = .ok (.goto 9, 3) := by decide +kernel
theorem dX6_beginAgain_114 : decode cX6_beginAgain 114 = .ok (.aload_n 0, 1) := by decide +kernel
theorem dX6_beginAgain_115 : decode cX6_beginAgain 115 = .ok (.getfield 148, 3) := by decide +kernel
theorem dX6_beginAgain_118 : decode cX6_beginAgain 118 = .ok (.iload_n 2, 1) := by decide +kernel
theorem dX6_beginAgain_119 : decode cX6_beginAgain 119 = .ok (.iadd, 1) := by decide +kernel
theorem dX6_beginAgain_120 : decode cX6_beginAgain 120 = .ok (.iastore, 1) := by decide +kernel
theorem dX6_beginAgain_121 : decode cX6_beginAgain 121 = .ok (.iinc 3 1, 3) := by decide +kernel
theorem dX6_beginAgain_124 : decode cX6_beginAgain 124 = .ok (.iinc 4 1, 3) := by decide +kernel
theorem dX6_beginAgain_127 : decode cX6_beginAgain 127 = .ok (.goto (-106), 3) := by decide +kernel
theorem dX6_beginAgain_130 : decode cX6_beginAgain 130 = .ok (.iconst 0, 1) := by decide +kernel
theorem dX6_beginAgain_131 : decode cX6_beginAgain 131 = .ok (.istore 4, 2) := by decide +kernel
theorem dX6_beginAgain_133 : decode cX6_beginAgain 133 = .ok (.iload 4, 2) := by decide +kernel
theorem dX6_beginAgain_135 : decode cX6_beginAgain 135 = .ok (.aload_n 0, 1) := by decide +kernel
theorem dX6_beginAgain_136 : decode cX6_beginAgain 136 = .ok (.getfield 135, 3) := by decide +kernel
theorem dX6_beginAgain_139 : decode cX6_beginAgain 139 = .ok (.if_icmp .ge 206, 3) := by decide +kernel
theorem dX6_beginAgain_142 : decode cX6_beginAgain 142 = .ok (.aload_n 0, 1) := by decide +kernel
theorem dX6_beginAgain_143 : decode cX6_beginAgain 143 = .ok (.getfield 122, 3) := by decide +kernel
theorem dX6_beginAgain_146 : decode cX6_beginAgain 146 = .ok (.aload_n 0, 1) := by decide +kernel
theorem dX6_beginAgain_147 : decode cX6_beginAgain 147 = .ok (.getfield 52, 3) := by decide +kernel
theorem dX6_beginAgain_150 : decode cX6_beginAgain 150 = .ok (.iload 4, 2) := by decide +kernel
theorem dX6_beginAgain_152 : decode cX6_beginAgain 152 = .ok (.iaload, 1) := by decide +kernel
theorem dX6_beginAgain_153 : decode cX6_beginAgain 153 = .ok (.baload, 1) := by decide +kernel
theorem dX6_beginAgain_154 : decode cX6_beginAgain 154 = .ok (.ifCond .eq 17, 3) := by decide +kernel
theorem dX6_beginAgain_157 : decode cX6_beginAgain 157 = .ok (.aload_n 0, 1) := by decide +kernel
theorem dX6_beginAgain_158 : decode cX6_beginAgain 158 = .ok (.getfield 68, 3) := by decide +kernel
theorem dX6_beginAgain_161 : decode cX6_beginAgain 161 = .ok (.iload 4, 2) := by decide +kernel
theorem dX6_beginAgain_163 : decode cX6_beginAgain 163 = .ok (.aload_n 0, 1) := by decide +kernel
theorem dX6_beginAgain_164 : decode cX6_beginAgain 164 = .ok (.getfield 95, 3) := by decide +kernel
theorem dX6_beginAgain_167 : decode cX6_beginAgain 167 = .ok (.iload 4, 2) := by decide +kernel
theorem dX6_beginAgain_169 : decode cX6_beginAgain 169 = .ok (.iaload, 1) := by decide +kernel
theorem dX6_beginAgain_170 : decode cX6_beginAgain 170 = .ok (.iastore, 1) := by decide +kernel
theorem dX6_beginAgain_171 : decode cX6_beginAgain 171 = .ok (.aload_n 0, 1) := by decide +kernel
theorem dX6_beginAgain_172 : decode cX6_beginAgain 172 = .ok (.getfield 122, 3) := by decide +kernel
theorem dX6_beginAgain_175 : decode cX6_beginAgain 175 = .ok (.aload_n 0, 1) := by decide +kernel
theorem dX6_beginAgain_176 : decode cX6_beginAgain 176 = .ok (.getfield 49, 3) := by decide +kernel
theorem dX6_beginAgain_179 : decode cX6_beginAgain 179 = .ok (.iload 4, 2) := by decide +kernel
theorem dX6_beginAgain_181 : decode cX6_beginAgain 181 = .ok (.iaload, 1) := by decide +kernel
theorem dX6_beginAgain_182 : decode cX6_beginAgain 182 = .ok (.baload, 1) := by decide +kernel
theorem dX6_beginAgain_183 : decode cX6_beginAgain 183 = .ok (.ifCond .eq 156, 3) := by decide +kernel
theorem dX6_beginAgain_186 : decode cX6_beginAgain 186 = .ok (.aload_n 0, 1) := by decide +kernel
theorem dX6_beginAgain_187 : decode cX6_beginAgain 187 = .ok (.getfield 65, 3) := by decide +kernel
theorem dX6_beginAgain_190 : decode cX6_beginAgain 190 = .ok (.iload 4, 2) := by decide +kernel
theorem dX6_beginAgain_192 : decode cX6_beginAgain 192 = .ok (.aload_n 0, 1) := by decide +kernel
theorem dX6_beginAgain_193 : decode cX6_beginAgain 193 = .ok (.getfield 92, 3) := by decide +kernel
theorem dX6_beginAgain_196 : decode cX6_beginAgain 196 = .ok (.iload 4, 2) := by decide +kernel
theorem dX6_beginAgain_198 : decode cX6_beginAgain 198 = .ok (.iaload, 1) := by decide +kernel
theorem dX6_beginAgain_199 : decode cX6_beginAgain 199 = .ok (.iastore, 1) := by decide +kernel
theorem dX6_beginAgain_200 : decode cX6_beginAgain 200 = .ok (.aload_n 0, 1) := by decide +kernel
theorem dX6_beginAgain_201 : decode cX6_beginAgain 201 = .ok (.getfield 55, 3) := by decide +kernel
theorem dX6_beginAgain_204 : decode cX6_beginAgain 204 = .ok (.iload 4, 2) := by decide +kernel
theorem dX6_beginAgain_206 : decode cX6_beginAgain 206 = .ok (.baload, 1) := by decide +kernel
theorem dX6_beginAgain_207 : decode cX6_beginAgain 207 = .ok (.ifCond .eq 28, 3) := by decide +kernel
theorem dX6_beginAgain_210 : decode cX6_beginAgain 210 = .ok (.aload_n 0, 1) := by decide +kernel
theorem dX6_beginAgain_211 : decode cX6_beginAgain 211 = .ok (.getfield 125, 3) := by decide +kernel
theorem dX6_beginAgain_214 : decode cX6_beginAgain 214 = .ok (.aload_n 0, 1) := by decide +kernel
theorem dX6_beginAgain_215 : decode cX6_beginAgain 215 = .ok (.getfield 49, 3) := by decide +kernel
theorem dX6_beginAgain_218 : decode cX6_beginAgain 218 = .ok (.iload 4, 2) := by decide +kernel
theorem dX6_beginAgain_220 : decode cX6_beginAgain 220 = .ok (.iaload, 1) := by decide +kernel
theorem dX6_beginAgain_221 : decode cX6_beginAgain 221 = .ok (.baload, 1) := by decide +kernel
theorem dX6_beginAgain_222 : decode cX6_beginAgain 222 = .ok (.ifCond .ne 13, 3) := by decide +kernel
theorem dX6_beginAgain_225 : decode cX6_beginAgain 225 = .ok (.aload_n 0, 1) := by decide +kernel
theorem dX6_beginAgain_226 : decode cX6_beginAgain 226 = .ok (.getfield 74, 3) := by decide +kernel
theorem dX6_beginAgain_229 : decode cX6_beginAgain 229 = .ok (.iload 4, 2) := by decide +kernel
theorem dX6_beginAgain_231 : decode cX6_beginAgain 231 = .ok (.baload, 1) := by decide +kernel
theorem dX6_beginAgain_232 : decode cX6_beginAgain 232 = .ok (.ifCond .eq 25, 3) := by decide +kernel
theorem dX6_beginAgain_235 : decode cX6_beginAgain 235 = .ok (.aload_n 0, 1) := by decide +kernel
theorem dX6_beginAgain_236 : decode cX6_beginAgain 236 = .ok (.getfield 62, 3) := by decide +kernel
theorem dX6_beginAgain_239 : decode cX6_beginAgain 239 = .ok (.iload 4, 2) := by decide +kernel
theorem dX6_beginAgain_241 : decode cX6_beginAgain 241 = .ok (.aload_n 0, 1) := by decide +kernel
theorem dX6_beginAgain_242 : decode cX6_beginAgain 242 = .ok (.getfield 89, 3) := by decide +kernel
theorem dX6_beginAgain_245 : decode cX6_beginAgain 245 = .ok (.iload 4, 2) := by decide +kernel
theorem dX6_beginAgain_247 : decode cX6_beginAgain 247 = .ok (.iaload, 1) := by decide +kernel
theorem dX6_beginAgain_248 : decode cX6_beginAgain 248 = .ok (.iastore, 1) := by decide +kernel
theorem dX6_beginAgain_249 : decode cX6_beginAgain 249 = .ok (.aload_n 0, 1) := by decide +kernel
theorem dX6_beginAgain_250 : decode cX6_beginAgain 250 = .ok (.getfield 74, 3) := by decide +kernel
theorem dX6_beginAgain_253 : decode cX6_beginAgain 253 = .ok (.iload 4, 2) := by decide +kernel
theorem dX6_beginAgain_255 : decode cX6_beginAgain 255 = .ok (.iconst 0, 1) := by decide +kernel
theorem dX6_beginAgain_256 : decode cX6_beginAgain 256 = .ok (.bastore, 1) := by decide +kernel
theorem dX6_beginAgain_257 : decode cX6_beginAgain 257 = .ok (.aload_n 0, 1) := by decide +kernel
theorem dX6_beginAgain_258 : decode cX6_beginAgain 258 = .ok (.getfield 125, 3) := by decide +kernel
theorem dX6_beginAgain_261 : decode cX6_beginAgain 261 = .ok (.aload_n 0, 1) := by decide +kernel
theorem dX6_beginAgain_262 : decode cX6_beginAgain 262 = .ok (.getfield 49, 3) := by decide +kernel
theorem dX6_beginAgain_265 : decode cX6_beginAgain 265 = .ok (.iload 4, 2) := by decide +kernel
theorem dX6_beginAgain_267 : decode cX6_beginAgain 267 = .ok (.iaload, 1) := by decide +kernel
theorem dX6_beginAgain_268 : decode cX6_beginAgain 268 = .ok (.baload, 1) := by decide +kernel
theorem dX6_beginAgain_269 : decode cX6_beginAgain 269 = .ok (.ifCond .eq 70, 3) := by decide +kernel
theorem dX6_beginAgain_272 : decode cX6_beginAgain 272 = .ok (.aload_n 0, 1) := by decide +kernel
theorem dX6_beginAgain_273 : decode cX6_beginAgain 273 = .ok (.getfield 89, 3) := by decide +kernel
theorem dX6_beginAgain_276 : decode cX6_beginAgain 276 = .ok (.iload 4, 2) := by decide +kernel
theorem dX6_beginAgain_278 : decode cX6_beginAgain 278 = .ok (.iaload, 1) := by decide +kernel
theorem dX6_beginAgain_279 : decode cX6_beginAgain 279 = .ok (.aload_n 0, 1) := by decide +kernel
theorem dX6_beginAgain_280 : decode cX6_beginAgain 280 = .ok (.getfield 95, 3) := by decide +kernel
theorem dX6_beginAgain_283 : decode cX6_beginAgain 283 = .ok (.iload 4, 2) := by decide +kernel
theorem dX6_beginAgain_285 : decode cX6_beginAgain 285 = .ok (.iaload, 1) := by decide +kernel
theorem dX6_beginAgain_286 : decode cX6_beginAgain 286 = .ok (.if_icmp .le 13, 3) := by decide +kernel
theorem dX6_beginAgain_289 : decode cX6_beginAgain 289 = .ok (.aload_n 0, 1) := by decide +kernel
theorem dX6_beginAgain_290 : decode cX6_beginAgain 290 = .ok (.getfield 89, 3) := by decide +kernel
theorem dX6_beginAgain_293 : decode cX6_beginAgain 293 = .ok (.iload 4, 2) := by decide +kernel
theorem dX6_beginAgain_295 : decode cX6_beginAgain 295 = .ok (.iaload, 1) := by decide +kernel
theorem dX6_beginAgain_296 : decode cX6_beginAgain 296 = .ok (.goto 10, 3) := by decide +kernel
theorem dX6_beginAgain_299 : decode cX6_beginAgain 299 = .ok (.aload_n 0, 1) := by decide +kernel
theorem dX6_beginAgain_300 : decode cX6_beginAgain 300 = .ok (.getfield 95, 3) := by decide +kernel
theorem dX6_beginAgain_303 : decode cX6_beginAgain 303 = .ok (.iload 4, 2) := by decide +kernel
theorem dX6_beginAgain_305 : decode cX6_beginAgain 305 = .ok (.iaload, 1) := by decide +kernel
theorem dX6_beginAgain_306 : decode cX6_beginAgain 306 = .ok (.istore 5, 2) := by decide +kernel
theorem dX6_beginAgain_308 : decode cX6_beginAgain 308 = .ok (.aload_n 0, 1) := by decide +kernel
theorem dX6_beginAgain_309 : decode cX6_beginAgain 309 = .ok (.getfield 71, 3) := by decide +kernel
theorem dX6_beginAgain_312 : decode cX6_beginAgain 312 = .ok (.iload 4, 2) := by decide +kernel
theorem dX6_beginAgain_314 : decode cX6_beginAgain 314 = .ok (.aload_n 0, 1) := by decide +kernel
theorem dX6_beginAgain_315 : decode cX6_beginAgain 315 = .ok (.getfield 71, 3) := by decide +kernel
theorem dX6_beginAgain_318 : decode cX6_beginAgain 318 = .ok (.iload 4, 2) := by decide +kernel
theorem dX6_beginAgain_320 : decode cX6_beginAgain 320 = .ok (.iaload, 1) := by decide +kernel
theorem dX6_beginAgain_321 : decode cX6_beginAgain 321 = .ok (.iload 5, 2) := by decide +kernel
theorem dX6_beginAgain_323 : decode cX6_beginAgain 323 = .ok (.if_icmp .ge 13, 3) := by decide +kernel
theorem dX6_beginAgain_326 : decode cX6_beginAgain 326 = .ok (.aload_n 0, 1) := by decide +kernel
theorem dX6_beginAgain_327 : decode cX6_beginAgain 327 = .ok (.getfield 71, 3) := by decide +kernel
theorem dX6_beginAgain_330 : decode cX6_beginAgain 330 = .ok (.iload 4, 2) := by decide +kernel
theorem dX6_beginAgain_332 : decode cX6_beginAgain 332 = .ok (.iaload, 1) := by decide +kernel
theorem dX6_beginAgain_333 : decode cX6_beginAgain 333 = .ok (.goto 5, 3) := by decide +kernel
theorem dX6_beginAgain_336 : decode cX6_beginAgain 336 = .ok (.iload 5, 2) := by decide +kernel
theorem dX6_beginAgain_338 : decode cX6_beginAgain 338 = .ok (.iastore, 1) := by decide +kernel
theorem dX6_beginAgain_339 : decode cX6_beginAgain 339 = .ok (.iinc 4 1, 3) := by decide +kernel
theorem dX6_beginAgain_342 : decode cX6_beginAgain 342 = .ok (.goto (-209), 3) := by decide +kernel
theorem dX6_beginAgain_345 : decode cX6_beginAgain 345 = .ok (.aload_n 0, 1) := by decide +kernel
theorem dX6_beginAgain_346 : decode cX6_beginAgain 346 = .ok (.dup, 1) := by decide +kernel
theorem dX6_beginAgain_347 : decode cX6_beginAgain 347 = .ok (.getfield 166, 3) := by decide +kernel
theorem dX6_beginAgain_350 : decode cX6_beginAgain 350 = .ok (.iload_n 3, 1) := by decide +kernel
theorem dX6_beginAgain_351 : decode cX6_beginAgain 351 = .ok (.iadd, 1) := by decide +kernel
theorem dX6_beginAgain_352 : decode cX6_beginAgain 352 = .ok (.putfield 166, 3) := by decide +kernel
theorem dX6_beginAgain_355 : decode cX6_beginAgain 355 = .ok (.iload_n 3, 1) := by decide +kernel
theorem dX6_beginAgain_356 : decode cX6_beginAgain 356 = .ok (.ireturn, 1) := by decide +kernel
theorem dX6_blame_0 : decode cX6_blame 0 = .ok (.aload_n 0, 1) := by decide +kernel
theorem dX6_blame_1 : decode cX6_blame 1 = .ok (.getfield 37, 3) := by decide +kernel
theorem dX6_blame_4 : decode cX6_blame 4 = .ok (.iload_n 1, 1) := by decide +kernel
theorem dX6_blame_5 : decode cX6_blame 5 = .ok (.dup2, 1) := by decide +kernel
theorem dX6_blame_6 : decode cX6_blame 6 = .ok (.iaload, 1) := by decide +kernel
theorem dX6_blame_7 : decode cX6_blame 7 = .ok (.iconst 1, 1) := by decide +kernel
theorem dX6_blame_8 : decode cX6_blame 8 = .ok (.iadd, 1) := by decide +kernel
theorem dX6_blame_9 : decode cX6_blame 9 = .ok (.iastore, 1) := by decide +kernel
theorem dX6_blame_10 : decode cX6_blame 10 = .ok (.aload_n 0, 1) := by decide +kernel
theorem dX6_blame_11 : decode cX6_blame 11 = .ok (.getfield 160, 3) := by decide +kernel
theorem dX6_blame_14 : decode cX6_blame 14 = .ok (.bipush 64, 2) := by decide +kernel
theorem dX6_blame_16 : decode cX6_blame 16 = .ok (.if_icmp .ge 46, 3) := by decide +kernel
theorem dX6_blame_19 : decode cX6_blame 19 = .ok (.aload_n 0, 1) := by decide +kernel
theorem dX6_blame_20 : decode cX6_blame 20 = .ok (.getfield 101, 3) := by decide +kernel
theorem dX6_blame_23 : decode cX6_blame 23 = .ok (.aload_n 0, 1) := by decide +kernel
theorem dX6_blame_24 : decode cX6_blame 24 = .ok (.getfield 160, 3) := by decide +kernel
theorem dX6_blame_27 : decode cX6_blame 27 = .ok (.iload_n 1, 1) := by decide +kernel
theorem dX6_blame_28 : decode cX6_blame 28 = .ok (.iastore, 1) := by decide +kernel
theorem dX6_blame_29 : decode cX6_blame 29 = .ok (.aload_n 0, 1) := by decide +kernel
theorem dX6_blame_30 : decode cX6_blame 30 = .ok (.getfield 104, 3) := by decide +kernel
theorem dX6_blame_33 : decode cX6_blame 33 = .ok (.aload_n 0, 1) := by decide +kernel
theorem dX6_blame_34 : decode cX6_blame 34 = .ok (.getfield 160, 3) := by decide +kernel
theorem dX6_blame_37 : decode cX6_blame 37 = .ok (.aload_n 0, 1) := by decide +kernel
theorem dX6_blame_38 : decode cX6_blame 38 = .ok (.getfield 148, 3) := by decide +kernel
theorem dX6_blame_41 : decode cX6_blame 41 = .ok (.iastore, 1) := by decide +kernel
theorem dX6_blame_42 : decode cX6_blame 42 = .ok (.aload_n 0, 1) := by decide +kernel
theorem dX6_blame_43 : decode cX6_blame 43 = .ok (.getfield 107, 3) := by decide +kernel
theorem dX6_blame_46 : decode cX6_blame 46 = .ok (.aload_n 0, 1) := by decide +kernel
theorem dX6_blame_47 : decode cX6_blame 47 = .ok (.getfield 160, 3) := by decide +kernel
theorem dX6_blame_50 : decode cX6_blame 50 = .ok (.iload_n 2, 1) := by decide +kernel
theorem dX6_blame_51 : decode cX6_blame 51 = .ok (.iastore, 1) := by decide +kernel
theorem dX6_blame_52 : decode cX6_blame 52 = .ok (.aload_n 0, 1) := by decide +kernel
theorem dX6_blame_53 : decode cX6_blame 53 = .ok (.dup, 1) := by decide +kernel
theorem dX6_blame_54 : decode cX6_blame 54 = .ok (.getfield 160, 3) := by decide +kernel
theorem dX6_blame_57 : decode cX6_blame 57 = .ok (.iconst 1, 1) := by decide +kernel
theorem dX6_blame_58 : decode cX6_blame 58 = .ok (.iadd, 1) := by decide +kernel
theorem dX6_blame_59 : decode cX6_blame 59 = .ok (.putfield 160, 3) := by decide +kernel
theorem dX6_blame_62 : decode cX6_blame 62 = .ok (.return_, 1) := by decide +kernel
theorem dX6_failOne_0 : decode cX6_failOne 0 = .ok (.aload_n 0, 1) := by decide +kernel
theorem dX6_failOne_1 : decode cX6_failOne 1 = .ok (.iload_n 1, 1) := by decide +kernel
theorem dX6_failOne_2 : decode cX6_failOne 2 = .ok (.iload_n 2, 1) := by decide +kernel
theorem dX6_failOne_3 : decode cX6_failOne 3 = .ok (.invokevirtual 230, 3) := by decide +kernel
theorem dX6_failOne_6 : decode cX6_failOne 6 = .ok (.aload_n 0, 1) := by decide +kernel
theorem dX6_failOne_7 : decode cX6_failOne 7 = .ok (.getfield 37, 3) := by decide +kernel
theorem dX6_failOne_10 : decode cX6_failOne 10 = .ok (.iload_n 1, 1) := by decide +kernel
theorem dX6_failOne_11 : decode cX6_failOne 11 = .ok (.iaload, 1) := by decide +kernel
theorem dX6_failOne_12 : decode cX6_failOne 12 = .ok (.aload_n 0, 1) := by decide +kernel
theorem dX6_failOne_13 : decode cX6_failOne 13 = .ok (.getfield 138, 3) := by decide +kernel
theorem dX6_failOne_16 : decode cX6_failOne 16 = .ok (.if_icmp .le 10, 3) := by decide +kernel
theorem dX6_failOne_19 : decode cX6_failOne 19 = .ok (.aload_n 0, 1) := by decide +kernel
theorem dX6_failOne_20 : decode cX6_failOne 20 = .ok (.iconst 1, 1) := by decide +kernel
theorem dX6_failOne_21 : decode cX6_failOne 21 = .ok (.putfield 163, 3) := by decide +kernel
theorem dX6_failOne_24 : decode cX6_failOne 24 = .ok (.iconst 0, 1) := by decide +kernel
theorem dX6_failOne_25 : decode cX6_failOne 25 = .ok (.ireturn, 1) := by decide +kernel
theorem dX6_failOne_26 : decode cX6_failOne 26 = .ok (.aload_n 0, 1) := by decide +kernel
theorem dX6_failOne_27 : decode cX6_failOne 27 = .ok (.invokevirtual 233, 3) := by decide +kernel
theorem dX6_failOne_30 : decode cX6_failOne 30 = .ok (.aload_n 0, 1) := by decide +kernel
theorem dX6_failOne_31 : decode cX6_failOne 31 = .ok (.getfield 122, 3) := by decide +kernel
theorem dX6_failOne_34 : decode cX6_failOne 34 = .ok (.iload_n 1, 1) := by decide +kernel
theorem dX6_failOne_35 : decode cX6_failOne 35 = .ok (.iconst 1, 1) := by decide +kernel
theorem dX6_failOne_36 : decode cX6_failOne 36 = .ok (.bastore, 1) := by decide +kernel
theorem dX6_failOne_37 : decode cX6_failOne 37 = .ok (.aload_n 0, 1) := by decide +kernel
theorem dX6_failOne_38 : decode cX6_failOne 38 = .ok (.invokevirtual 236, 3) := by decide +kernel
theorem dX6_failOne_41 : decode cX6_failOne 41 = .ok (.aload_n 0, 1) := by decide +kernel
theorem dX6_failOne_42 : decode cX6_failOne 42 = .ok (.aload_n 0, 1) := by decide +kernel
theorem dX6_failOne_43 : decode cX6_failOne 43 = .ok (.getfield 37, 3) := by decide +kernel
theorem dX6_failOne_46 : decode cX6_failOne 46 = .ok (.iload_n 1, 1) := by decide +kernel
theorem dX6_failOne_47 : decode cX6_failOne 47 = .ok (.iaload, 1) := by decide +kernel
theorem dX6_failOne_48 : decode cX6_failOne 48 = .ok (.invokevirtual 239, 3) := by decide +kernel
theorem dX6_failOne_51 : decode cX6_failOne 51 = .ok (.ireturn, 1) := by decide +kernel
theorem dX6_fail_0 : decode cX6_fail 0 = .ok (.aload_n 0, 1) := by decide +kernel
theorem dX6_fail_1 : decode cX6_fail 1 = .ok (.iload_n 1, 1) := by decide +kernel
theorem dX6_fail_2 : decode cX6_fail 2 = .ok (.invokevirtual 177, 3) := by decide +kernel
theorem dX6_fail_5 : decode cX6_fail 5 = .ok (.ifCond .eq 5, 3) := by decide +kernel
theorem dX6_fail_8 : decode cX6_fail 8 = .ok (.iconst (-1), 1) := by decide +kernel
theorem dX6_fail_9 : decode cX6_fail 9 = .ok (.ireturn, 1) := by decide +kernel
theorem dX6_fail_10 : decode cX6_fail 10 = .ok (.aload_n 0, 1) := by decide +kernel
theorem dX6_fail_11 : decode cX6_fail 11 = .ok (.getfield 163, 3) := by decide +kernel
theorem dX6_fail_14 : decode cX6_fail 14 = .ok (.ifCond .eq 8, 3) := by decide +kernel
theorem dX6_fail_17 : decode cX6_fail 17 = .ok (.bipush (-3), 2) := by decide +kernel
theorem dX6_fail_19 : decode cX6_fail 19 = .ok (.goto 9, 3) := by decide +kernel
theorem dX6_fail_22 : decode cX6_fail 22 = .ok (.aload_n 0, 1) := by decide +kernel
theorem dX6_fail_23 : decode cX6_fail 23 = .ok (.iload_n 1, 1) := by decide +kernel
theorem dX6_fail_24 : decode cX6_fail 24 = .ok (.iconst 1, 1) := by decide +kernel
theorem dX6_fail_25 : decode cX6_fail 25 = .ok (.invokevirtual 224, 3) := by decide +kernel
theorem dX6_fail_28 : decode cX6_fail 28 = .ok (.ireturn, 1) := by decide +kernel
theorem dX6_nodesThere_0 : decode cX6_nodesThere 0 = .ok (.iconst 0, 1) := by decide +kernel
theorem dX6_nodesThere_1 : decode cX6_nodesThere 1 = .ok (.istore_n 1, 1) := by decide +kernel
theorem dX6_nodesThere_2 : decode cX6_nodesThere 2 = .ok (.iconst 0, 1) := by decide +kernel
theorem dX6_nodesThere_3 : decode cX6_nodesThere 3 = .ok (.istore_n 2, 1) := by decide +kernel
theorem dX6_nodesThere_4 : decode cX6_nodesThere 4 = .ok (.iload_n 2, 1) := by decide +kernel
theorem dX6_nodesThere_5 : decode cX6_nodesThere 5 = .ok (.iconst 4, 1) := by decide +kernel
theorem dX6_nodesThere_6 : decode cX6_nodesThere 6 = .ok (.if_icmp .ge 26, 3) := by decide +kernel
theorem dX6_nodesThere_9 : decode cX6_nodesThere 9 = .ok (.iload_n 1, 1) := by decide +kernel
theorem dX6_nodesThere_10 : decode cX6_nodesThere 10 = .ok (.aload_n 0, 1) := by decide +kernel
theorem dX6_nodesThere_11 : decode cX6_nodesThere 11 = .ok (.getfield 98, 3) := by decide +kernel
theorem dX6_nodesThere_14 : decode cX6_nodesThere 14 = .ok (.iload_n 2, 1) := by decide +kernel
theorem dX6_nodesThere_15 : decode cX6_nodesThere 15 = .ok (.baload, 1) := by decide +kernel
theorem dX6_nodesThere_16 : decode cX6_nodesThere 16 = .ok (.ifCond .eq 7, 3) := by decide +kernel
theorem dX6_nodesThere_19 : decode cX6_nodesThere 19 = .ok (.iconst 0, 1) := by decide +kernel
theorem dX6_nodesThere_20 : decode cX6_nodesThere 20 = .ok (.goto 4, 3) := by decide +kernel
theorem dX6_nodesThere_23 : decode cX6_nodesThere 23 = .ok (.iconst 1, 1) := by decide +kernel
theorem dX6_nodesThere_24 : decode cX6_nodesThere 24 = .ok (.iadd, 1) := by decide +kernel
theorem dX6_nodesThere_25 : decode cX6_nodesThere 25 = .ok (.istore_n 1, 1) := by decide +kernel
theorem dX6_nodesThere_26 : decode cX6_nodesThere 26 = .ok (.iinc 2 1, 3) := by decide +kernel
theorem dX6_nodesThere_29 : decode cX6_nodesThere 29 = .ok (.goto (-25), 3) := by decide +kernel
theorem dX6_nodesThere_32 : decode cX6_nodesThere 32 = .ok (.iload_n 1, 1) := by decide +kernel
theorem dX6_nodesThere_33 : decode cX6_nodesThere 33 = .ok (.ireturn, 1) := by decide +kernel
theorem dX6_emptiest_0 : decode cX6_emptiest 0 = .ok (.bipush (-9), 2) := by decide +kernel
theorem dX6_emptiest_2 : decode cX6_emptiest 2 = .ok (.istore_n 1, 1) := by decide +kernel
theorem dX6_emptiest_3 : decode cX6_emptiest 3 = .ok (.bipush 17, 2) := by decide +kernel
theorem dX6_emptiest_5 : decode cX6_emptiest 5 = .ok (.istore_n 2, 1) := by decide +kernel
theorem dX6_emptiest_6 : decode cX6_emptiest 6 = .ok (.iconst 0, 1) := by decide +kernel
theorem dX6_emptiest_7 : decode cX6_emptiest 7 = .ok (.istore_n 3, 1) := by decide +kernel
theorem dX6_emptiest_8 : decode cX6_emptiest 8 = .ok (.iload_n 3, 1) := by decide +kernel
theorem dX6_emptiest_9 : decode cX6_emptiest 9 = .ok (.iconst 4, 1) := by decide +kernel
theorem dX6_emptiest_10 : decode cX6_emptiest 10 = .ok (.if_icmp .ge 71, 3) := by decide +kernel
theorem dX6_emptiest_13 : decode cX6_emptiest 13 = .ok (.iconst 0, 1) := by decide +kernel
theorem dX6_emptiest_14 : decode cX6_emptiest 14 = .ok (.istore 4, 2) := by decide +kernel
theorem dX6_emptiest_16 : decode cX6_emptiest 16 = .ok (.iconst 0, 1) := by decide +kernel
theorem dX6_emptiest_17 : decode cX6_emptiest 17 = .ok (.istore 5, 2) := by decide +kernel
theorem dX6_emptiest_19 : decode cX6_emptiest 19 = .ok (.iload 5, 2) := by decide +kernel
theorem dX6_emptiest_21 : decode cX6_emptiest 21 = .ok (.aload_n 0, 1) := by decide +kernel
theorem dX6_emptiest_22 : decode cX6_emptiest 22 = .ok (.getfield 131, 3) := by decide +kernel
theorem dX6_emptiest_25 : decode cX6_emptiest 25 = .ok (.if_icmp .ge 30, 3) := by decide +kernel
theorem dX6_emptiest_28 : decode cX6_emptiest 28 = .ok (.iload 4, 2) := by decide +kernel
theorem dX6_emptiest_30 : decode cX6_emptiest 30 = .ok (.aload_n 0, 1) := by decide +kernel
theorem dX6_emptiest_31 : decode cX6_emptiest 31 = .ok (.getfield 16, 3) := by decide +kernel
theorem dX6_emptiest_34 : decode cX6_emptiest 34 = .ok (.iload 5, 2) := by decide +kernel
theorem dX6_emptiest_36 : decode cX6_emptiest 36 = .ok (.iaload, 1) := by decide +kernel
theorem dX6_emptiest_37 : decode cX6_emptiest 37 = .ok (.iload_n 3, 1) := by decide +kernel
theorem dX6_emptiest_38 : decode cX6_emptiest 38 = .ok (.if_icmp .ne 7, 3) := by decide +kernel
theorem dX6_emptiest_41 : decode cX6_emptiest 41 = .ok (.iconst 1, 1) := by decide +kernel
theorem dX6_emptiest_42 : decode cX6_emptiest 42 = .ok (.goto 4, 3) := by decide +kernel
theorem dX6_emptiest_45 : decode cX6_emptiest 45 = .ok (.iconst 0, 1) := by decide +kernel
theorem dX6_emptiest_46 : decode cX6_emptiest 46 = .ok (.iadd, 1) := by decide +kernel
theorem dX6_emptiest_47 : decode cX6_emptiest 47 = .ok (.istore 4, 2) := by decide +kernel
