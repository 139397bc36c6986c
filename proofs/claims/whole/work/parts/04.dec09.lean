theorem dX6_emptiest_49 : decode cX6_emptiest 49 = .ok (.iinc 5 1, 3) := by decide +kernel
theorem dX6_emptiest_52 : decode cX6_emptiest 52 = .ok (.goto (-33), 3) := by decide +kernel
theorem dX6_emptiest_55 : decode cX6_emptiest 55 = .ok (.aload_n 0, 1) := by decide +kernel
theorem dX6_emptiest_56 : decode cX6_emptiest 56 = .ok (.getfield 98, 3) := by decide +kernel
theorem dX6_emptiest_59 : decode cX6_emptiest 59 = .ok (.iload_n 3, 1) := by decide +kernel
theorem dX6_emptiest_60 : decode cX6_emptiest 60 = .ok (.baload, 1) := by decide +kernel
theorem dX6_emptiest_61 : decode cX6_emptiest 61 = .ok (.ifCond .ne 14, 3) := by decide +kernel
theorem dX6_emptiest_64 : decode cX6_emptiest 64 = .ok (.iload 4, 2) := by decide +kernel
theorem dX6_emptiest_66 : decode cX6_emptiest 66 = .ok (.iload_n 2, 1) := by decide +kernel
theorem dX6_emptiest_67 : decode cX6_emptiest 67 = .ok (.if_icmp .ge 8, 3) := by decide +kernel
theorem dX6_emptiest_70 : decode cX6_emptiest 70 = .ok (.iload_n 3, 1) := by decide +kernel
theorem dX6_emptiest_71 : decode cX6_emptiest 71 = .ok (.istore_n 1, 1) := by decide +kernel
theorem dX6_emptiest_72 : decode cX6_emptiest 72 = .ok (.iload 4, 2) := by decide +kernel
theorem dX6_emptiest_74 : decode cX6_emptiest 74 = .ok (.istore_n 2, 1) := by decide +kernel
theorem dX6_emptiest_75 : decode cX6_emptiest 75 = .ok (.iinc 3 1, 3) := by decide +kernel
theorem dX6_emptiest_78 : decode cX6_emptiest 78 = .ok (.goto (-70), 3) := by decide +kernel
theorem dX6_emptiest_81 : decode cX6_emptiest 81 = .ok (.iload_n 1, 1) := by decide +kernel
theorem dX6_emptiest_82 : decode cX6_emptiest 82 = .ok (.ireturn, 1) := by decide +kernel
theorem dX6_gone_0 : decode cX6_gone 0 = .ok (.aload_n 0, 1) := by decide +kernel
theorem dX6_gone_1 : decode cX6_gone 1 = .ok (.iload_n 1, 1) := by decide +kernel
theorem dX6_gone_2 : decode cX6_gone 2 = .ok (.invokevirtual 173, 3) := by decide +kernel
theorem dX6_gone_5 : decode cX6_gone 5 = .ok (.ifCond .eq 5, 3) := by decide +kernel
theorem dX6_gone_8 : decode cX6_gone 8 = .ok (.iconst (-1), 1) := by decide +kernel
theorem dX6_gone_9 : decode cX6_gone 9 = .ok (.ireturn, 1) := by decide +kernel
theorem dX6_gone_10 : decode cX6_gone 10 = .ok (.aload_n 0, 1) := by decide +kernel
theorem dX6_gone_11 : decode cX6_gone 11 = .ok (.getfield 98, 3) := by decide +kernel
theorem dX6_gone_14 : decode cX6_gone 14 = .ok (.iload_n 1, 1) := by decide +kernel
theorem dX6_gone_15 : decode cX6_gone 15 = .ok (.baload, 1) := by decide +kernel
theorem dX6_gone_16 : decode cX6_gone 16 = .ok (.ifCond .ne 18, 3) := by decide +kernel
theorem dX6_gone_19 : decode cX6_gone 19 = .ok (.aload_n 0, 1) := by decide +kernel
theorem dX6_gone_20 : decode cX6_gone 20 = .ok (.invokevirtual 242, 3) := by decide +kernel
theorem dX6_gone_23 : decode cX6_gone 23 = .ok (.iconst 1, 1) := by decide +kernel
theorem dX6_gone_24 : decode cX6_gone 24 = .ok (.if_icmp .eq 10, 3) := by decide +kernel
theorem dX6_gone_27 : decode cX6_gone 27 = .ok (.aload_n 0, 1) := by decide +kernel
theorem dX6_gone_28 : decode cX6_gone 28 = .ok (.getfield 163, 3) := by decide +kernel
theorem dX6_gone_31 : decode cX6_gone 31 = .ok (.ifCond .eq 6, 3) := by decide +kernel
theorem dX6_gone_34 : decode cX6_gone 34 = .ok (.bipush (-3), 2) := by decide +kernel
theorem dX6_gone_36 : decode cX6_gone 36 = .ok (.ireturn, 1) := by decide +kernel
theorem dX6_gone_37 : decode cX6_gone 37 = .ok (.aload_n 0, 1) := by decide +kernel
theorem dX6_gone_38 : decode cX6_gone 38 = .ok (.getfield 98, 3) := by decide +kernel
theorem dX6_gone_41 : decode cX6_gone 41 = .ok (.iload_n 1, 1) := by decide +kernel
theorem dX6_gone_42 : decode cX6_gone 42 = .ok (.iconst 1, 1) := by decide +kernel
theorem dX6_gone_43 : decode cX6_gone 43 = .ok (.bastore, 1) := by decide +kernel
theorem dX6_gone_44 : decode cX6_gone 44 = .ok (.iconst 0, 1) := by decide +kernel
theorem dX6_gone_45 : decode cX6_gone 45 = .ok (.istore_n 2, 1) := by decide +kernel
theorem dX6_gone_46 : decode cX6_gone 46 = .ok (.aload_n 0, 1) := by decide +kernel
theorem dX6_gone_47 : decode cX6_gone 47 = .ok (.invokevirtual 233, 3) := by decide +kernel
theorem dX6_gone_50 : decode cX6_gone 50 = .ok (.iconst 0, 1) := by decide +kernel
theorem dX6_gone_51 : decode cX6_gone 51 = .ok (.istore_n 3, 1) := by decide +kernel
theorem dX6_gone_52 : decode cX6_gone 52 = .ok (.iload_n 3, 1) := by decide +kernel
theorem dX6_gone_53 : decode cX6_gone 53 = .ok (.aload_n 0, 1) := by decide +kernel
theorem dX6_gone_54 : decode cX6_gone 54 = .ok (.getfield 131, 3) := by decide +kernel
theorem dX6_gone_57 : decode cX6_gone 57 = .ok (.if_icmp .ge 53, 3) := by decide +kernel
theorem dX6_gone_60 : decode cX6_gone 60 = .ok (.aload_n 0, 1) := by decide +kernel
theorem dX6_gone_61 : decode cX6_gone 61 = .ok (.getfield 16, 3) := by decide +kernel
theorem dX6_gone_64 : decode cX6_gone 64 = .ok (.iload_n 3, 1) := by decide +kernel
theorem dX6_gone_65 : decode cX6_gone 65 = .ok (.iaload, 1) := by decide +kernel
theorem dX6_gone_66 : decode cX6_gone 66 = .ok (.iload_n 1, 1) := by decide +kernel
theorem dX6_gone_67 : decode cX6_gone 67 = .ok (.if_icmp .ne 37, 3) := by decide +kernel
theorem dX6_gone_70 : decode cX6_gone 70 = .ok (.aload_n 0, 1) := by decide +kernel
theorem dX6_gone_71 : decode cX6_gone 71 = .ok (.iload_n 3, 1) := by decide +kernel
theorem dX6_gone_72 : decode cX6_gone 72 = .ok (.iconst 2, 1) := by decide +kernel
theorem dX6_gone_73 : decode cX6_gone 73 = .ok (.invokevirtual 230, 3) := by decide +kernel
theorem dX6_gone_76 : decode cX6_gone 76 = .ok (.aload_n 0, 1) := by decide +kernel
theorem dX6_gone_77 : decode cX6_gone 77 = .ok (.getfield 37, 3) := by decide +kernel
theorem dX6_gone_80 : decode cX6_gone 80 = .ok (.iload_n 3, 1) := by decide +kernel
theorem dX6_gone_81 : decode cX6_gone 81 = .ok (.iaload, 1) := by decide +kernel
theorem dX6_gone_82 : decode cX6_gone 82 = .ok (.iload_n 2, 1) := by decide +kernel
theorem dX6_gone_83 : decode cX6_gone 83 = .ok (.if_icmp .le 12, 3) := by decide +kernel
theorem dX6_gone_86 : decode cX6_gone 86 = .ok (.aload_n 0, 1) := by decide +kernel
theorem dX6_gone_87 : decode cX6_gone 87 = .ok (.getfield 37, 3) := by decide +kernel
theorem dX6_gone_90 : decode cX6_gone 90 = .ok (.iload_n 3, 1) := by decide +kernel
theorem dX6_gone_91 : decode cX6_gone 91 = .ok (.iaload, 1) := by decide +kernel
theorem dX6_gone_92 : decode cX6_gone 92 = .ok (.goto 4, 3) := by decide +kernel
theorem dX6_gone_95 : decode cX6_gone 95 = .ok (.iload_n 2, 1) := by decide +kernel
theorem dX6_gone_96 : decode cX6_gone 96 = .ok (.istore_n 2, 1) := by decide +kernel
theorem dX6_gone_97 : decode cX6_gone 97 = .ok (.aload_n 0, 1) := by decide +kernel
theorem dX6_gone_98 : decode cX6_gone 98 = .ok (.getfield 122, 3) := by decide +kernel
theorem dX6_gone_101 : decode cX6_gone 101 = .ok (.iload_n 3, 1) := by decide +kernel
theorem dX6_gone_102 : decode cX6_gone 102 = .ok (.iconst 1, 1) := by decide +kernel
theorem dX6_gone_103 : decode cX6_gone 103 = .ok (.bastore, 1) := by decide +kernel
theorem dX6_gone_104 : decode cX6_gone 104 = .ok (.iinc 3 1, 3) := by decide +kernel
theorem dX6_gone_107 : decode cX6_gone 107 = .ok (.goto (-55), 3) := by decide +kernel
theorem dX6_gone_110 : decode cX6_gone 110 = .ok (.iload_n 2, 1) := by decide +kernel
theorem dX6_gone_111 : decode cX6_gone 111 = .ok (.ifCond .ne 5, 3) := by decide +kernel
theorem dX6_gone_114 : decode cX6_gone 114 = .ok (.iconst 0, 1) := by decide +kernel
theorem dX6_gone_115 : decode cX6_gone 115 = .ok (.ireturn, 1) := by decide +kernel
theorem dX6_gone_116 : decode cX6_gone 116 = .ok (.iload_n 2, 1) := by decide +kernel
theorem dX6_gone_117 : decode cX6_gone 117 = .ok (.aload_n 0, 1) := by decide +kernel
theorem dX6_gone_118 : decode cX6_gone 118 = .ok (.getfield 138, 3) := by decide +kernel
theorem dX6_gone_121 : decode cX6_gone 121 = .ok (.if_icmp .le 10, 3) := by decide +kernel
theorem dX6_gone_124 : decode cX6_gone 124 = .ok (.aload_n 0, 1) := by decide +kernel
theorem dX6_gone_125 : decode cX6_gone 125 = .ok (.iconst 1, 1) := by decide +kernel
theorem dX6_gone_126 : decode cX6_gone 126 = .ok (.putfield 163, 3) := by decide +kernel
theorem dX6_gone_129 : decode cX6_gone 129 = .ok (.iconst 0, 1) := by decide +kernel
theorem dX6_gone_130 : decode cX6_gone 130 = .ok (.ireturn, 1) := by decide +kernel
theorem dX6_gone_131 : decode cX6_gone 131 = .ok (.iconst 0, 1) := by decide +kernel
theorem dX6_gone_132 : decode cX6_gone 132 = .ok (.istore_n 3, 1) := by decide +kernel
theorem dX6_gone_133 : decode cX6_gone 133 = .ok (.iload_n 3, 1) := by decide +kernel
theorem dX6_gone_134 : decode cX6_gone 134 = .ok (.aload_n 0, 1) := by decide +kernel
theorem dX6_gone_135 : decode cX6_gone 135 = .ok (.getfield 131, 3) := by decide +kernel
theorem dX6_gone_138 : decode cX6_gone 138 = .ok (.if_icmp .ge 37, 3) := by decide +kernel
theorem dX6_gone_141 : decode cX6_gone 141 = .ok (.aload_n 0, 1) := by decide +kernel
theorem dX6_gone_142 : decode cX6_gone 142 = .ok (.getfield 16, 3) := by decide +kernel
theorem dX6_gone_145 : decode cX6_gone 145 = .ok (.iload_n 3, 1) := by decide +kernel
theorem dX6_gone_146 : decode cX6_gone 146 = .ok (.aload_n 0, 1) := by decide +kernel
theorem dX6_gone_147 : decode cX6_gone 147 = .ok (.getfield 122, 3) := by decide +kernel
theorem dX6_gone_150 : decode cX6_gone 150 = .ok (.iload_n 3, 1) := by decide +kernel
theorem dX6_gone_151 : decode cX6_gone 151 = .ok (.baload, 1) := by decide +kernel
theorem dX6_gone_152 : decode cX6_gone 152 = .ok (.ifCond .eq 10, 3) := by decide +kernel
theorem dX6_gone_155 : decode cX6_gone 155 = .ok (.aload_n 0, 1) := by decide +kernel
theorem dX6_gone_156 : decode cX6_gone 156 = .ok (.invokevirtual 246, 3) := by decide +kernel
theorem dX6_gone_159 : decode cX6_gone 159 = .ok (.goto 9, 3) := by decide +kernel
theorem dX6_gone_162 : decode cX6_gone 162 = .ok (.aload_n 0, 1) := by decide +kernel
theorem dX6_gone_163 : decode cX6_gone 163 = .ok (.getfield 16, 3) := by decide +kernel
theorem dX6_gone_166 : decode cX6_gone 166 = .ok (.iload_n 3, 1) := by decide +kernel
theorem dX6_gone_167 : decode cX6_gone 167 = .ok (.iaload, 1) := by decide +kernel
theorem dX6_gone_168 : decode cX6_gone 168 = .ok (.iastore, 1) := by decide +kernel
theorem dX6_gone_169 : decode cX6_gone 169 = .ok (.iinc 3 1, 3) := by decide +kernel
theorem dX6_gone_172 : decode cX6_gone 172 = .ok (.goto (-39), 3) := by decide +kernel
theorem dX6_gone_175 : decode cX6_gone 175 = .ok (.iconst 0, 1) := by decide +kernel
theorem dX6_gone_176 : decode cX6_gone 176 = .ok (.istore_n 3, 1) := by decide +kernel
theorem dX6_gone_177 : decode cX6_gone 177 = .ok (.iload_n 3, 1) := by decide +kernel
theorem dX6_gone_178 : decode cX6_gone 178 = .ok (.aload_n 0, 1) := by decide +kernel
theorem dX6_gone_179 : decode cX6_gone 179 = .ok (.getfield 135, 3) := by decide +kernel
theorem dX6_gone_182 : decode cX6_gone 182 = .ok (.if_icmp .ge 66, 3) := by decide +kernel
theorem dX6_gone_185 : decode cX6_gone 185 = .ok (.aload_n 0, 1) := by decide +kernel
theorem dX6_gone_186 : decode cX6_gone 186 = .ok (.getfield 55, 3) := by decide +kernel
theorem dX6_gone_189 : decode cX6_gone 189 = .ok (.iload_n 3, 1) := by decide +kernel
theorem dX6_gone_190 : decode cX6_gone 190 = .ok (.baload, 1) := by decide +kernel
theorem dX6_gone_191 : decode cX6_gone 191 = .ok (.ifCond .eq 51, 3) := by decide +kernel
theorem dX6_gone_194 : decode cX6_gone 194 = .ok (.aload_n 0, 1) := by decide +kernel
theorem dX6_gone_195 : decode cX6_gone 195 = .ok (.getfield 122, 3) := by decide +kernel
theorem dX6_gone_198 : decode cX6_gone 198 = .ok (.aload_n 0, 1) := by decide +kernel
theorem dX6_gone_199 : decode cX6_gone 199 = .ok (.getfield 49, 3) := by decide +kernel
theorem dX6_gone_202 : decode cX6_gone 202 = .ok (.iload_n 3, 1) := by decide +kernel
theorem dX6_gone_203 : decode cX6_gone 203 = .ok (.iaload, 1) := by decide +kernel
theorem dX6_gone_204 : decode cX6_gone 204 = .ok (.baload, 1) := by decide +kernel
theorem dX6_gone_205 : decode cX6_gone 205 = .ok (.ifCond .eq 37, 3) := by decide +kernel
theorem dX6_gone_208 : decode cX6_gone 208 = .ok (.aload_n 0, 1) := by decide +kernel
theorem dX6_gone_209 : decode cX6_gone 209 = .ok (.getfield 62, 3) := by decide +kernel
theorem dX6_gone_212 : decode cX6_gone 212 = .ok (.iload_n 3, 1) := by decide +kernel
theorem dX6_gone_213 : decode cX6_gone 213 = .ok (.iaload, 1) := by decide +kernel
theorem dX6_gone_214 : decode cX6_gone 214 = .ok (.aload_n 0, 1) := by decide +kernel
theorem dX6_gone_215 : decode cX6_gone 215 = .ok (.getfield 89, 3) := by decide +kernel
theorem dX6_gone_218 : decode cX6_gone 218 = .ok (.iload_n 3, 1) := by decide +kernel
theorem dX6_gone_219 : decode cX6_gone 219 = .ok (.iaload, 1) := by decide +kernel
theorem dX6_gone_220 : decode cX6_gone 220 = .ok (.if_icmp .le 22, 3) := by decide +kernel
theorem dX6_gone_223 : decode cX6_gone 223 = .ok (.aload_n 0, 1) := by decide +kernel
theorem dX6_gone_224 : decode cX6_gone 224 = .ok (.getfield 74, 3) := by decide +kernel
theorem dX6_gone_227 : decode cX6_gone 227 = .ok (.iload_n 3, 1) := by decide +kernel
theorem dX6_gone_228 : decode cX6_gone 228 = .ok (.iconst 1, 1) := by decide +kernel
theorem dX6_gone_229 : decode cX6_gone 229 = .ok (.bastore, 1) := by decide +kernel
theorem dX6_gone_230 : decode cX6_gone 230 = .ok (.aload_n 0, 1) := by decide +kernel
theorem dX6_gone_231 : decode cX6_gone 231 = .ok (.getfield 77, 3) := by decide +kernel
theorem dX6_gone_234 : decode cX6_gone 234 = .ok (.iload_n 3, 1) := by decide +kernel
theorem dX6_gone_235 : decode cX6_gone 235 = .ok (.aload_n 0, 1) := by decide +kernel
theorem dX6_gone_236 : decode cX6_gone 236 = .ok (.getfield 62, 3) := by decide +kernel
theorem dX6_gone_239 : decode cX6_gone 239 = .ok (.iload_n 3, 1) := by decide +kernel
theorem dX6_gone_240 : decode cX6_gone 240 = .ok (.iaload, 1) := by decide +kernel
theorem dX6_gone_241 : decode cX6_gone 241 = .ok (.iastore, 1) := by decide +kernel
theorem dX6_gone_242 : decode cX6_gone 242 = .ok (.iinc 3 1, 3) := by decide +kernel
theorem dX6_gone_245 : decode cX6_gone 245 = .ok (.goto (-68), 3) := by decide +kernel
theorem dX6_gone_248 : decode cX6_gone 248 = .ok (.aload_n 0, 1) := by decide +kernel
theorem dX6_gone_249 : decode cX6_gone 249 = .ok (.invokevirtual 236, 3) := by decide +kernel
theorem dX6_gone_252 : decode cX6_gone 252 = .ok (.aload_n 0, 1) := by decide +kernel
theorem dX6_gone_253 : decode cX6_gone 253 = .ok (.iload_n 2, 1) := by decide +kernel
theorem dX6_gone_254 : decode cX6_gone 254 = .ok (.invokevirtual 239, 3) := by decide +kernel
theorem dX6_gone_257 : decode cX6_gone 257 = .ok (.ireturn, 1) := by decide +kernel
theorem dX6_lose_0 : decode cX6_lose 0 = .ok (.aload_n 0, 1) := by decide +kernel
theorem dX6_lose_1 : decode cX6_lose 1 = .ok (.iload_n 1, 1) := by decide +kernel
theorem dX6_lose_2 : decode cX6_lose 2 = .ok (.invokevirtual 249, 3) := by decide +kernel
theorem dX6_lose_5 : decode cX6_lose 5 = .ok (.ifCond .eq 5, 3) := by decide +kernel
theorem dX6_lose_8 : decode cX6_lose 8 = .ok (.iconst (-1), 1) := by decide +kernel
theorem dX6_lose_9 : decode cX6_lose 9 = .ok (.ireturn, 1) := by decide +kernel
theorem dX6_lose_10 : decode cX6_lose 10 = .ok (.aload_n 0, 1) := by decide +kernel
theorem dX6_lose_11 : decode cX6_lose 11 = .ok (.getfield 55, 3) := by decide +kernel
theorem dX6_lose_14 : decode cX6_lose 14 = .ok (.iload_n 1, 1) := by decide +kernel
theorem dX6_lose_15 : decode cX6_lose 15 = .ok (.baload, 1) := by decide +kernel
theorem dX6_lose_16 : decode cX6_lose 16 = .ok (.ifCond .eq 10, 3) := by decide +kernel
theorem dX6_lose_19 : decode cX6_lose 19 = .ok (.aload_n 0, 1) := by decide +kernel
theorem dX6_lose_20 : decode cX6_lose 20 = .ok (.getfield 163, 3) := by decide +kernel
theorem dX6_lose_23 : decode cX6_lose 23 = .ok (.ifCond .eq 6, 3) := by decide +kernel
theorem dX6_lose_26 : decode cX6_lose 26 = .ok (.bipush (-3), 2) := by decide +kernel
theorem dX6_lose_28 : decode cX6_lose 28 = .ok (.ireturn, 1) := by decide +kernel
theorem dX6_lose_29 : decode cX6_lose 29 = .ok (.aload_n 0, 1) := by decide +kernel
theorem dX6_lose_30 : decode cX6_lose 30 = .ok (.getfield 62, 3) := by decide +kernel
theorem dX6_lose_33 : decode cX6_lose 33 = .ok (.iload_n 1, 1) := by decide +kernel
theorem dX6_lose_34 : decode cX6_lose 34 = .ok (.iaload, 1) := by decide +kernel
theorem dX6_lose_35 : decode cX6_lose 35 = .ok (.aload_n 0, 1) := by decide +kernel
theorem dX6_lose_36 : decode cX6_lose 36 = .ok (.getfield 89, 3) := by decide +kernel
theorem dX6_lose_39 : decode cX6_lose 39 = .ok (.iload_n 1, 1) := by decide +kernel
theorem dX6_lose_40 : decode cX6_lose 40 = .ok (.iaload, 1) := by decide +kernel
theorem dX6_lose_41 : decode cX6_lose 41 = .ok (.if_icmp .gt 5, 3) := by decide +kernel
theorem dX6_lose_44 : decode cX6_lose 44 = .ok (.iconst 0, 1) := by decide +kernel
theorem dX6_lose_45 : decode cX6_lose 45 = .ok (.ireturn, 1) := by decide +kernel
theorem dX6_lose_46 : decode cX6_lose 46 = .ok (.aload_n 0, 1) := by decide +kernel
theorem dX6_lose_47 : decode cX6_lose 47 = .ok (.getfield 74, 3) := by decide +kernel
theorem dX6_lose_50 : decode cX6_lose 50 = .ok (.iload_n 1, 1) := by decide +kernel
theorem dX6_lose_51 : decode cX6_lose 51 = .ok (.iconst 1, 1) := by decide +kernel
theorem dX6_lose_52 : decode cX6_lose 52 = .ok (.bastore, 1) := by decide +kernel
theorem dX6_lose_53 : decode cX6_lose 53 = .ok (.aload_n 0, 1) := by decide +kernel
theorem dX6_lose_54 : decode cX6_lose 54 = .ok (.getfield 77, 3) := by decide +kernel
theorem dX6_lose_57 : decode cX6_lose 57 = .ok (.iload_n 1, 1) := by decide +kernel
theorem dX6_lose_58 : decode cX6_lose 58 = .ok (.aload_n 0, 1) := by decide +kernel
theorem dX6_lose_59 : decode cX6_lose 59 = .ok (.getfield 62, 3) := by decide +kernel
theorem dX6_lose_62 : decode cX6_lose 62 = .ok (.iload_n 1, 1) := by decide +kernel
theorem dX6_lose_63 : decode cX6_lose 63 = .ok (.iaload, 1) := by decide +kernel
theorem dX6_lose_64 : decode cX6_lose 64 = .ok (.iastore, 1) := by decide +kernel
theorem dX6_lose_65 : decode cX6_lose 65 = .ok (.aload_n 0, 1) := by decide +kernel
theorem dX6_lose_66 : decode cX6_lose 66 = .ok (.getfield 68, 3) := by decide +kernel
theorem dX6_lose_69 : decode cX6_lose 69 = .ok (.iload_n 1, 1) := by decide +kernel
theorem dX6_lose_70 : decode cX6_lose 70 = .ok (.iaload, 1) := by decide +kernel
theorem dX6_lose_71 : decode cX6_lose 71 = .ok (.aload_n 0, 1) := by decide +kernel
theorem dX6_lose_72 : decode cX6_lose 72 = .ok (.getfield 62, 3) := by decide +kernel
theorem dX6_lose_75 : decode cX6_lose 75 = .ok (.iload_n 1, 1) := by decide +kernel
theorem dX6_lose_76 : decode cX6_lose 76 = .ok (.iaload, 1) := by decide +kernel
theorem dX6_lose_77 : decode cX6_lose 77 = .ok (.if_icmp .ge 17, 3) := by decide +kernel
theorem dX6_lose_80 : decode cX6_lose 80 = .ok (.aload_n 0, 1) := by decide +kernel
theorem dX6_lose_81 : decode cX6_lose 81 = .ok (.aload_n 0, 1) := by decide +kernel
theorem dX6_lose_82 : decode cX6_lose 82 = .ok (.getfield 49, 3) := by decide +kernel
theorem dX6_lose_85 : decode cX6_lose 85 = .ok (.iload_n 1, 1) := by decide +kernel
theorem dX6_lose_86 : decode cX6_lose 86 = .ok (.iaload, 1) := by decide +kernel
theorem dX6_lose_87 : decode cX6_lose 87 = .ok (.iconst 3, 1) := by decide +kernel
theorem dX6_lose_88 : decode cX6_lose 88 = .ok (.invokevirtual 224, 3) := by decide +kernel
theorem dX6_lose_91 : decode cX6_lose 91 = .ok (.goto 4, 3) := by decide +kernel
theorem dX6_lose_94 : decode cX6_lose 94 = .ok (.iconst 0, 1) := by decide +kernel
theorem dX6_lose_95 : decode cX6_lose 95 = .ok (.ireturn, 1) := by decide +kernel
theorem dX6_tick_0 : decode cX6_tick 0 = .ok (.iload_n 1, 1) := by decide +kernel
theorem dX6_tick_1 : decode cX6_tick 1 = .ok (.iconst 1, 1) := by decide +kernel
theorem dX6_tick_2 : decode cX6_tick 2 = .ok (.bipush 100, 2) := by decide +kernel
theorem dX6_tick_4 : decode cX6_tick 4 = .ok (.invokestatic 169, 3) := by decide +kernel
theorem dX6_tick_7 : decode cX6_tick 7 = .ok (.ifCond .ne 6, 3) := by decide +kernel
theorem dX6_tick_10 : decode cX6_tick 10 = .ok (.bipush (-2), 2) := by decide +kernel
theorem dX6_tick_12 : decode cX6_tick 12 = .ok (.ireturn, 1) := by decide +kernel
theorem dX6_tick_13 : decode cX6_tick 13 = .ok (.aload_n 0, 1) := by decide +kernel
theorem dX6_tick_14 : decode cX6_tick 14 = .ok (.aload_n 0, 1) := by decide +kernel
theorem dX6_tick_15 : decode cX6_tick 15 = .ok (.getfield 148, 3) := by decide +kernel
theorem dX6_tick_18 : decode cX6_tick 18 = .ok (.iload_n 1, 1) := by decide +kernel
theorem dX6_tick_19 : decode cX6_tick 19 = .ok (.iadd, 1) := by decide +kernel
theorem dX6_tick_20 : decode cX6_tick 20 = .ok (.ldc 252, 2) := by decide +kernel
theorem dX6_tick_22 : decode cX6_tick 22 = .ok (.if_icmp .le 8, 3) := by decide +kernel
theorem dX6_tick_25 : decode cX6_tick 25 = .ok (.ldc 252, 2) := by decide +kernel
theorem dX6_tick_27 : decode cX6_tick 27 = .ok (.goto 9, 3) := by decide +kernel
theorem dX6_tick_30 : decode cX6_tick 30 = .ok (.aload_n 0, 1) := by decide +kernel
theorem dX6_tick_31 : decode cX6_tick 31 = .ok (.getfield 148, 3) := by decide +kernel
theorem dX6_tick_34 : decode cX6_tick 34 = .ok (.iload_n 1, 1) := by decide +kernel
theorem dX6_tick_35 : decode cX6_tick 35 = .ok (.iadd, 1) := by decide +kernel
theorem dX6_tick_36 : decode cX6_tick 36 = .ok (.putfield 148, 3) := by decide +kernel
theorem dX6_tick_39 : decode cX6_tick 39 = .ok (.aload_n 0, 1) := by decide +kernel
theorem dX6_tick_40 : decode cX6_tick 40 = .ok (.getfield 148, 3) := by decide +kernel
theorem dX6_tick_43 : decode cX6_tick 43 = .ok (.ireturn, 1) := by decide +kernel
theorem dX6_waiting_0 : decode cX6_waiting 0 = .ok (.iconst 0, 1) := by decide +kernel
theorem dX6_waiting_1 : decode cX6_waiting 1 = .ok (.istore_n 1, 1) := by decide +kernel
theorem dX6_waiting_2 : decode cX6_waiting 2 = .ok (.iconst 0, 1) := by decide +kernel
theorem dX6_waiting_3 : decode cX6_waiting 3 = .ok (.istore_n 2, 1) := by decide +kernel
theorem dX6_waiting_4 : decode cX6_waiting 4 = .ok (.iload_n 2, 1) := by decide +kernel
theorem dX6_waiting_5 : decode cX6_waiting 5 = .ok (.aload_n 0, 1) := by decide +kernel
theorem dX6_waiting_6 : decode cX6_waiting 6 = .ok (.getfield 131, 3) := by decide +kernel
theorem dX6_waiting_9 : decode cX6_waiting 9 = .ok (.if_icmp .ge 30, 3) := by decide +kernel
theorem dX6_waiting_12 : decode cX6_waiting 12 = .ok (.iload_n 1, 1) := by decide +kernel
theorem dX6_waiting_13 : decode cX6_waiting 13 = .ok (.aload_n 0, 1) := by decide +kernel
theorem dX6_waiting_14 : decode cX6_waiting 14 = .ok (.getfield 40, 3) := by decide +kernel
theorem dX6_waiting_17 : decode cX6_waiting 17 = .ok (.iload_n 2, 1) := by decide +kernel
theorem dX6_waiting_18 : decode cX6_waiting 18 = .ok (.iaload, 1) := by decide +kernel
theorem dX6_waiting_19 : decode cX6_waiting 19 = .ok (.aload_n 0, 1) := by decide +kernel
theorem dX6_waiting_20 : decode cX6_waiting 20 = .ok (.getfield 148, 3) := by decide +kernel
theorem dX6_waiting_23 : decode cX6_waiting 23 = .ok (.if_icmp .le 7, 3) := by decide +kernel
theorem dX6_waiting_26 : decode cX6_waiting 26 = .ok (.iconst 1, 1) := by decide +kernel
theorem dX6_waiting_27 : decode cX6_waiting 27 = .ok (.goto 4, 3) := by decide +kernel
theorem dX6_waiting_30 : decode cX6_waiting 30 = .ok (.iconst 0, 1) := by decide +kernel
theorem dX6_waiting_31 : decode cX6_waiting 31 = .ok (.iadd, 1) := by decide +kernel
theorem dX6_waiting_32 : decode cX6_waiting 32 = .ok (.istore_n 1, 1) := by decide +kernel
theorem dX6_waiting_33 : decode cX6_waiting 33 = .ok (.iinc 2 1, 3) := by decide +kernel
theorem dX6_waiting_36 : decode cX6_waiting 36 = .ok (.goto (-32), 3) := by decide +kernel
theorem dX6_waiting_39 : decode cX6_waiting 39 = .ok (.iload_n 1, 1) := by decide +kernel
theorem dX6_waiting_40 : decode cX6_waiting 40 = .ok (.ireturn, 1) := by decide +kernel
theorem dX6_mark_0 : decode cX6_mark 0 = .ok (.aload_n 0, 1) := by decide +kernel
theorem dX6_mark_1 : decode cX6_mark 1 = .ok (.invokevirtual 253, 3) := by decide +kernel
theorem dX6_mark_4 : decode cX6_mark 4 = .ok (.ifCond .gt 10, 3) := by decide +kernel
theorem dX6_mark_7 : decode cX6_mark 7 = .ok (.aload_n 0, 1) := by decide +kernel
theorem dX6_mark_8 : decode cX6_mark 8 = .ok (.getfield 163, 3) := by decide +kernel
theorem dX6_mark_11 : decode cX6_mark 11 = .ok (.ifCond .eq 6, 3) := by decide +kernel
theorem dX6_mark_14 : decode cX6_mark 14 = .ok (.bipush (-3), 2) := by decide +kernel
theorem dX6_mark_16 : decode cX6_mark 16 = .ok (.ireturn, 1) := by decide +kernel
theorem dX6_mark_17 : decode cX6_mark 17 = .ok (.iconst 0, 1) := by decide +kernel
theorem dX6_mark_18 : decode cX6_mark 18 = .ok (.istore_n 1, 1) := by decide +kernel
theorem dX6_mark_19 : decode cX6_mark 19 = .ok (.iload_n 1, 1) := by decide +kernel
theorem dX6_mark_20 : decode cX6_mark 20 = .ok (.aload_n 0, 1) := by decide +kernel
theorem dX6_mark_21 : decode cX6_mark 21 = .ok (.getfield 131, 3) := by decide +kernel
theorem dX6_mark_24 : decode cX6_mark 24 = .ok (.if_icmp .ge 45, 3) := by decide +kernel
theorem dX6_mark_27 : decode cX6_mark 27 = .ok (.aload_n 0, 1) := by decide +kernel
theorem dX6_mark_28 : decode cX6_mark 28 = .ok (.getfield 80, 3) := by decide +kernel
theorem dX6_mark_31 : decode cX6_mark 31 = .ok (.iload_n 1, 1) := by decide +kernel
theorem dX6_mark_32 : decode cX6_mark 32 = .ok (.aload_n 0, 1) := by decide +kernel
theorem dX6_mark_33 : decode cX6_mark 33 = .ok (.getfield 19, 3) := by decide +kernel
theorem dX6_mark_36 : decode cX6_mark 36 = .ok (.iload_n 1, 1) := by decide +kernel
theorem dX6_mark_37 : decode cX6_mark 37 = .ok (.iaload, 1) := by decide +kernel
theorem dX6_mark_38 : decode cX6_mark 38 = .ok (.iastore, 1) := by decide +kernel
theorem dX6_mark_39 : decode cX6_mark 39 = .ok (.aload_n 0, 1) := by decide +kernel
theorem dX6_mark_40 : decode cX6_mark 40 = .ok (.getfield 83, 3) := by decide +kernel
theorem dX6_mark_43 : decode cX6_mark 43 = .ok (.iload_n 1, 1) := by decide +kernel
theorem dX6_mark_44 : decode cX6_mark 44 = .ok (.aload_n 0, 1) := by decide +kernel
theorem dX6_mark_45 : decode cX6_mark 45 = .ok (.getfield 22, 3) := by decide +kernel
theorem dX6_mark_48 : decode cX6_mark 48 = .ok (.iload_n 1, 1) := by decide +kernel
theorem dX6_mark_49 : decode cX6_mark 49 = .ok (.iaload, 1) := by decide +kernel
theorem dX6_mark_50 : decode cX6_mark 50 = .ok (.iastore, 1) := by decide +kernel
theorem dX6_mark_51 : decode cX6_mark 51 = .ok (.aload_n 0, 1) := by decide +kernel
theorem dX6_mark_52 : decode cX6_mark 52 = .ok (.getfield 86, 3) := by decide +kernel
theorem dX6_mark_55 : decode cX6_mark 55 = .ok (.iload_n 1, 1) := by decide +kernel
theorem dX6_mark_56 : decode cX6_mark 56 = .ok (.aload_n 0, 1) := by decide +kernel
theorem dX6_mark_57 : decode cX6_mark 57 = .ok (.getfield 25, 3) := by decide +kernel
theorem dX6_mark_60 : decode cX6_mark 60 = .ok (.iload_n 1, 1) := by decide +kernel
theorem dX6_mark_61 : decode cX6_mark 61 = .ok (.iaload, 1) := by decide +kernel
theorem dX6_mark_62 : decode cX6_mark 62 = .ok (.iastore, 1) := by decide +kernel
theorem dX6_mark_63 : decode cX6_mark 63 = .ok (.iinc 1 1, 3) := by decide +kernel
theorem dX6_mark_66 : decode cX6_mark 66 = .ok (.goto (-47), 3) := by decide +kernel
theorem dX6_mark_69 : decode cX6_mark 69 = .ok (.iconst 0, 1) := by decide +kernel
theorem dX6_mark_70 : decode cX6_mark 70 = .ok (.istore_n 1, 1) := by decide +kernel
theorem dX6_mark_71 : decode cX6_mark 71 = .ok (.iload_n 1, 1) := by decide +kernel
theorem dX6_mark_72 : decode cX6_mark 72 = .ok (.aload_n 0, 1) := by decide +kernel
theorem dX6_mark_73 : decode cX6_mark 73 = .ok (.getfield 135, 3) := by decide +kernel
theorem dX6_mark_76 : decode cX6_mark 76 = .ok (.if_icmp .ge 52, 3) := by decide +kernel
theorem dX6_mark_79 : decode cX6_mark 79 = .ok (.aload_n 0, 1) := by decide +kernel
theorem dX6_mark_80 : decode cX6_mark 80 = .ok (.getfield 89, 3) := by decide +kernel
theorem dX6_mark_83 : decode cX6_mark 83 = .ok (.iload_n 1, 1) := by decide +kernel
theorem dX6_mark_84 : decode cX6_mark 84 = .ok (.aload_n 0, 1) := by decide +kernel
theorem dX6_mark_85 : decode cX6_mark 85 = .ok (.getfield 62, 3) := by decide +kernel
theorem dX6_mark_88 : decode cX6_mark 88 = .ok (.iload_n 1, 1) := by decide +kernel
theorem dX6_mark_89 : decode cX6_mark 89 = .ok (.iaload, 1) := by decide +kernel
theorem dX6_mark_90 : decode cX6_mark 90 = .ok (.iastore, 1) := by decide +kernel
theorem dX6_mark_91 : decode cX6_mark 91 = .ok (.aload_n 0, 1) := by decide +kernel
theorem dX6_mark_92 : decode cX6_mark 92 = .ok (.getfield 92, 3) := by decide +kernel
theorem dX6_mark_95 : decode cX6_mark 95 = .ok (.iload_n 1, 1) := by decide +kernel
theorem dX6_mark_96 : decode cX6_mark 96 = .ok (.aload_n 0, 1) := by decide +kernel
theorem dX6_mark_97 : decode cX6_mark 97 = .ok (.getfield 65, 3) := by decide +kernel
theorem dX6_mark_100 : decode cX6_mark 100 = .ok (.iload_n 1, 1) := by decide +kernel
theorem dX6_mark_101 : decode cX6_mark 101 = .ok (.iaload, 1) := by decide +kernel
theorem dX6_mark_102 : decode cX6_mark 102 = .ok (.iastore, 1) := by decide +kernel
theorem dX6_mark_103 : decode cX6_mark 103 = .ok (.aload_n 0, 1) := by decide +kernel
theorem dX6_mark_104 : decode cX6_mark 104 = .ok (.getfield 95, 3) := by decide +kernel
theorem dX6_mark_107 : decode cX6_mark 107 = .ok (.iload_n 1, 1) := by decide +kernel
theorem dX6_mark_108 : decode cX6_mark 108 = .ok (.aload_n 0, 1) := by decide +kernel
theorem dX6_mark_109 : decode cX6_mark 109 = .ok (.getfield 68, 3) := by decide +kernel
theorem dX6_mark_112 : decode cX6_mark 112 = .ok (.iload_n 1, 1) := by decide +kernel
theorem dX6_mark_113 : decode cX6_mark 113 = .ok (.iaload, 1) := by decide +kernel
theorem dX6_mark_114 : decode cX6_mark 114 = .ok (.iastore, 1) := by decide +kernel
theorem dX6_mark_115 : decode cX6_mark 115 = .ok (.aload_n 0, 1) := by decide +kernel
theorem dX6_mark_116 : decode cX6_mark 116 = .ok (.getfield 74, 3) := by decide +kernel
theorem dX6_mark_119 : decode cX6_mark 119 = .ok (.iload_n 1, 1) := by decide +kernel
theorem dX6_mark_120 : decode cX6_mark 120 = .ok (.iconst 0, 1) := by decide +kernel
theorem dX6_mark_121 : decode cX6_mark 121 = .ok (.bastore, 1) := by decide +kernel
theorem dX6_mark_122 : decode cX6_mark 122 = .ok (.iinc 1 1, 3) := by decide +kernel
theorem dX6_mark_125 : decode cX6_mark 125 = .ok (.goto (-54), 3) := by decide +kernel
theorem dX6_mark_128 : decode cX6_mark 128 = .ok (.aload_n 0, 1) := by decide +kernel
theorem dX6_mark_129 : decode cX6_mark 129 = .ok (.dup, 1) := by decide +kernel
theorem dX6_mark_130 : decode cX6_mark 130 = .ok (.getfield 157, 3) := by decide +kernel
theorem dX6_mark_133 : decode cX6_mark 133 = .ok (.iconst 1, 1) := by decide +kernel
theorem dX6_mark_134 : decode cX6_mark 134 = .ok (.iadd, 1) := by decide +kernel
theorem dX6_mark_135 : decode cX6_mark 135 = .ok (.putfield 157, 3) := by decide +kernel
theorem dX6_mark_138 : decode cX6_mark 138 = .ok (.aload_n 0, 1) := by decide +kernel
theorem dX6_mark_139 : decode cX6_mark 139 = .ok (.getfield 157, 3) := by decide +kernel
theorem dX6_mark_142 : decode cX6_mark 142 = .ok (.ireturn, 1) := by decide +kernel
theorem dX6_region_0 : decode cX6_region 0 = .ok (.aload_n 0, 1) := by decide +kernel
theorem dX6_region_1 : decode cX6_region 1 = .ok (.iload_n 1, 1) := by decide +kernel
theorem dX6_region_2 : decode cX6_region 2 = .ok (.invokevirtual 177, 3) := by decide +kernel
theorem dX6_region_5 : decode cX6_region 5 = .ok (.ifCond .eq 5, 3) := by decide +kernel
theorem dX6_region_8 : decode cX6_region 8 = .ok (.iconst (-1), 1) := by decide +kernel
theorem dX6_region_9 : decode cX6_region 9 = .ok (.ireturn, 1) := by decide +kernel
theorem dX6_region_10 : decode cX6_region 10 = .ok (.aload_n 0, 1) := by decide +kernel
theorem dX6_region_11 : decode cX6_region 11 = .ok (.invokevirtual 233, 3) := by decide +kernel
theorem dX6_region_14 : decode cX6_region 14 = .ok (.aload_n 0, 1) := by decide +kernel
theorem dX6_region_15 : decode cX6_region 15 = .ok (.getfield 122, 3) := by decide +kernel
theorem dX6_region_18 : decode cX6_region 18 = .ok (.iload_n 1, 1) := by decide +kernel
theorem dX6_region_19 : decode cX6_region 19 = .ok (.iconst 1, 1) := by decide +kernel
theorem dX6_region_20 : decode cX6_region 20 = .ok (.bastore, 1) := by decide +kernel
theorem dX6_region_21 : decode cX6_region 21 = .ok (.aload_n 0, 1) := by decide +kernel
theorem dX6_region_22 : decode cX6_region 22 = .ok (.invokevirtual 236, 3) := by decide +kernel
theorem dX6_region_25 : decode cX6_region 25 = .ok (.iconst 0, 1) := by decide +kernel
theorem dX6_region_26 : decode cX6_region 26 = .ok (.istore_n 2, 1) := by decide +kernel
theorem dX6_region_27 : decode cX6_region 27 = .ok (.iconst 0, 1) := by decide +kernel
theorem dX6_region_28 : decode cX6_region 28 = .ok (.istore_n 3, 1) := by decide +kernel
theorem dX6_region_29 : decode cX6_region 29 = .ok (.iload_n 3, 1) := by decide +kernel
theorem dX6_region_30 : decode cX6_region 30 = .ok (.aload_n 0, 1) := by decide +kernel
theorem dX6_region_31 : decode cX6_region 31 = .ok (.getfield 131, 3) := by decide +kernel
theorem dX6_region_34 : decode cX6_region 34 = .ok (.if_icmp .ge 28, 3) := by decide +kernel
theorem dX6_region_37 : decode cX6_region 37 = .ok (.iload_n 2, 1) := by decide +kernel
theorem dX6_region_38 : decode cX6_region 38 = .ok (.aload_n 0, 1) := by decide +kernel
theorem dX6_region_39 : decode cX6_region 39 = .ok (.getfield 122, 3) := by decide +kernel
theorem dX6_region_42 : decode cX6_region 42 = .ok (.iload_n 3, 1) := by decide +kernel
theorem dX6_region_43 : decode cX6_region 43 = .ok (.baload, 1) := by decide +kernel
theorem dX6_region_44 : decode cX6_region 44 = .ok (.ifCond .eq 9, 3) := by decide +kernel
theorem dX6_region_47 : decode cX6_region 47 = .ok (.iconst 1, 1) := by decide +kernel
theorem dX6_region_48 : decode cX6_region 48 = .ok (.iload_n 3, 1) := by decide +kernel
theorem dX6_region_49 : decode cX6_region 49 = .ok (.ishl, 1) := by decide +kernel
theorem dX6_region_50 : decode cX6_region 50 = .ok (.goto 4, 3) := by decide +kernel
theorem dX6_region_53 : decode cX6_region 53 = .ok (.iconst 0, 1) := by decide +kernel
theorem dX6_region_54 : decode cX6_region 54 = .ok (.ior, 1) := by decide +kernel
theorem dX6_region_55 : decode cX6_region 55 = .ok (.istore_n 2, 1) := by decide +kernel
theorem dX6_region_56 : decode cX6_region 56 = .ok (.iinc 3 1, 3) := by decide +kernel
theorem dX6_region_59 : decode cX6_region 59 = .ok (.goto (-30), 3) := by decide +kernel
theorem dX6_region_62 : decode cX6_region 62 = .ok (.iload_n 2, 1) := by decide +kernel
theorem dX6_region_63 : decode cX6_region 63 = .ok (.ireturn, 1) := by decide +kernel
theorem dX6_taskAt_0 : decode cX6_taskAt 0 = .ok (.aload_n 0, 1) := by decide +kernel
theorem dX6_taskAt_1 : decode cX6_taskAt 1 = .ok (.iload_n 1, 1) := by decide +kernel
theorem dX6_taskAt_2 : decode cX6_taskAt 2 = .ok (.invokevirtual 177, 3) := by decide +kernel
theorem dX6_taskAt_5 : decode cX6_taskAt 5 = .ok (.ifCond .eq 5, 3) := by decide +kernel
theorem dX6_taskAt_8 : decode cX6_taskAt 8 = .ok (.iconst (-1), 1) := by decide +kernel
theorem dX6_taskAt_9 : decode cX6_taskAt 9 = .ok (.ireturn, 1) := by decide +kernel
theorem dX6_taskAt_10 : decode cX6_taskAt 10 = .ok (.iload_n 2, 1) := by decide +kernel
theorem dX6_taskAt_11 : decode cX6_taskAt 11 = .ok (.tableswitch 157 0 9 #[53, 60, 67, 74, 81, 88, 95, 124, 143, 150], 53) := by decide +kernel
theorem dX6_taskAt_64 : decode cX6_taskAt 64 = .ok (.aload_n 0, 1) := by decide +kernel
theorem dX6_taskAt_65 : decode cX6_taskAt 65 = .ok (.getfield 7, 3) := by decide +kernel
theorem dX6_taskAt_68 : decode cX6_taskAt 68 = .ok (.iload_n 1, 1) := by decide +kernel
theorem dX6_taskAt_69 : decode cX6_taskAt 69 = .ok (.iaload, 1) := by decide +kernel
theorem dX6_taskAt_70 : decode cX6_taskAt 70 = .ok (.ireturn, 1) := by decide +kernel
theorem dX6_taskAt_71 : decode cX6_taskAt 71 = .ok (.aload_n 0, 1) := by decide +kernel
theorem dX6_taskAt_72 : decode cX6_taskAt 72 = .ok (.getfield 16, 3) := by decide +kernel
theorem dX6_taskAt_75 : decode cX6_taskAt 75 = .ok (.iload_n 1, 1) := by decide +kernel
theorem dX6_taskAt_76 : decode cX6_taskAt 76 = .ok (.iaload, 1) := by decide +kernel
theorem dX6_taskAt_77 : decode cX6_taskAt 77 = .ok (.ireturn, 1) := by decide +kernel
theorem dX6_taskAt_78 : decode cX6_taskAt 78 = .ok (.aload_n 0, 1) := by decide +kernel
theorem dX6_taskAt_79 : decode cX6_taskAt 79 = .ok (.getfield 19, 3) := by decide +kernel
theorem dX6_taskAt_82 : decode cX6_taskAt 82 = .ok (.iload_n 1, 1) := by decide +kernel
theorem dX6_taskAt_83 : decode cX6_taskAt 83 = .ok (.iaload, 1) := by decide +kernel
theorem dX6_taskAt_84 : decode cX6_taskAt 84 = .ok (.ireturn, 1) := by decide +kernel
theorem dX6_taskAt_85 : decode cX6_taskAt 85 = .ok (.aload_n 0, 1) := by decide +kernel
theorem dX6_taskAt_86 : decode cX6_taskAt 86 = .ok (.getfield 22, 3) := by decide +kernel
theorem dX6_taskAt_89 : decode cX6_taskAt 89 = .ok (.iload_n 1, 1) := by decide +kernel
theorem dX6_taskAt_90 : decode cX6_taskAt 90 = .ok (.iaload, 1) := by decide +kernel
theorem dX6_taskAt_91 : decode cX6_taskAt 91 = .ok (.ireturn, 1) := by decide +kernel
theorem dX6_taskAt_92 : decode cX6_taskAt 92 = .ok (.aload_n 0, 1) := by decide +kernel
theorem dX6_taskAt_93 : decode cX6_taskAt 93 = .ok (.getfield 34, 3) := by decide +kernel
theorem dX6_taskAt_96 : decode cX6_taskAt 96 = .ok (.iload_n 1, 1) := by decide +kernel
theorem dX6_taskAt_97 : decode cX6_taskAt 97 = .ok (.iaload, 1) := by decide +kernel
theorem dX6_taskAt_98 : decode cX6_taskAt 98 = .ok (.ireturn, 1) := by decide +kernel
theorem dX6_taskAt_99 : decode cX6_taskAt 99 = .ok (.aload_n 0, 1) := by decide +kernel
theorem dX6_taskAt_100 : decode cX6_taskAt 100 = .ok (.getfield 37, 3) := by decide +kernel
theorem dX6_taskAt_103 : decode cX6_taskAt 103 = .ok (.iload_n 1, 1) := by decide +kernel
theorem dX6_taskAt_104 : decode cX6_taskAt 104 = .ok (.iaload, 1) := by decide +kernel
theorem dX6_taskAt_105 : decode cX6_taskAt 105 = .ok (.ireturn, 1) := by decide +kernel
theorem dX6_taskAt_106 : decode cX6_taskAt 106 = .ok (.aload_n 0, 1) := by decide +kernel
theorem dX6_taskAt_107 : decode cX6_taskAt 107 = .ok (.getfield 40, 3) := by decide +kernel
theorem dX6_taskAt_110 : decode cX6_taskAt 110 = .ok (.iload_n 1, 1) := by decide +kernel
theorem dX6_taskAt_111 : decode cX6_taskAt 111 = .ok (.iaload, 1) := by decide +kernel
theorem dX6_taskAt_112 : decode cX6_taskAt 112 = .ok (.aload_n 0, 1) := by decide +kernel
theorem dX6_taskAt_113 : decode cX6_taskAt 113 = .ok (.getfield 148, 3) := by decide +kernel
theorem dX6_taskAt_116 : decode cX6_taskAt 116 = .ok (.if_icmp .le 17, 3) := by decide +kernel
theorem dX6_taskAt_119 : decode cX6_taskAt 119 = .ok (.aload_n 0, 1) := by decide +kernel
theorem dX6_taskAt_120 : decode cX6_taskAt 120 = .ok (.getfield 40, 3) := by decide +kernel
