theorem dX6_work_161 : decode cX6_work 161 = .ok (.iadd, 1) := by decide +kernel
theorem dX6_work_162 : decode cX6_work 162 = .ok (.iastore, 1) := by decide +kernel
theorem dX6_work_163 : decode cX6_work 163 = .ok (.goto 9, 3) := by decide +kernel
theorem dX6_work_166 : decode cX6_work 166 = .ok (.aload_n 0, 1) := by decide +kernel
theorem dX6_work_167 : decode cX6_work 167 = .ok (.iload_n 1, 1) := by decide +kernel
theorem dX6_work_168 : decode cX6_work 168 = .ok (.iload_n 2, 1) := by decide +kernel
theorem dX6_work_169 : decode cX6_work 169 = .ok (.invokevirtual 187, 3) := by decide +kernel
theorem dX6_work_172 : decode cX6_work 172 = .ok (.return_, 1) := by decide +kernel
theorem dX6_holdAll_0 : decode cX6_holdAll 0 = .ok (.iconst 0, 1) := by decide +kernel
theorem dX6_holdAll_1 : decode cX6_holdAll 1 = .ok (.istore_n 1, 1) := by decide +kernel
theorem dX6_holdAll_2 : decode cX6_holdAll 2 = .ok (.iload_n 1, 1) := by decide +kernel
theorem dX6_holdAll_3 : decode cX6_holdAll 3 = .ok (.aload_n 0, 1) := by decide +kernel
theorem dX6_holdAll_4 : decode cX6_holdAll 4 = .ok (.getfield 135, 3) := by decide +kernel
theorem dX6_holdAll_7 : decode cX6_holdAll 7 = .ok (.if_icmp .ge 45, 3) := by decide +kernel
theorem dX6_holdAll_10 : decode cX6_holdAll 10 = .ok (.aload_n 0, 1) := by decide +kernel
theorem dX6_holdAll_11 : decode cX6_holdAll 11 = .ok (.getfield 113, 3) := by decide +kernel
theorem dX6_holdAll_14 : decode cX6_holdAll 14 = .ok (.iload_n 1, 1) := by decide +kernel
theorem dX6_holdAll_15 : decode cX6_holdAll 15 = .ok (.aload_n 0, 1) := by decide +kernel
theorem dX6_holdAll_16 : decode cX6_holdAll 16 = .ok (.getfield 62, 3) := by decide +kernel
theorem dX6_holdAll_19 : decode cX6_holdAll 19 = .ok (.iload_n 1, 1) := by decide +kernel
theorem dX6_holdAll_20 : decode cX6_holdAll 20 = .ok (.iaload, 1) := by decide +kernel
theorem dX6_holdAll_21 : decode cX6_holdAll 21 = .ok (.iastore, 1) := by decide +kernel
theorem dX6_holdAll_22 : decode cX6_holdAll 22 = .ok (.aload_n 0, 1) := by decide +kernel
theorem dX6_holdAll_23 : decode cX6_holdAll 23 = .ok (.getfield 116, 3) := by decide +kernel
theorem dX6_holdAll_26 : decode cX6_holdAll 26 = .ok (.iload_n 1, 1) := by decide +kernel
theorem dX6_holdAll_27 : decode cX6_holdAll 27 = .ok (.aload_n 0, 1) := by decide +kernel
theorem dX6_holdAll_28 : decode cX6_holdAll 28 = .ok (.getfield 65, 3) := by decide +kernel
theorem dX6_holdAll_31 : decode cX6_holdAll 31 = .ok (.iload_n 1, 1) := by decide +kernel
theorem dX6_holdAll_32 : decode cX6_holdAll 32 = .ok (.iaload, 1) := by decide +kernel
theorem dX6_holdAll_33 : decode cX6_holdAll 33 = .ok (.iastore, 1) := by decide +kernel
theorem dX6_holdAll_34 : decode cX6_holdAll 34 = .ok (.aload_n 0, 1) := by decide +kernel
theorem dX6_holdAll_35 : decode cX6_holdAll 35 = .ok (.getfield 119, 3) := by decide +kernel
theorem dX6_holdAll_38 : decode cX6_holdAll 38 = .ok (.iload_n 1, 1) := by decide +kernel
theorem dX6_holdAll_39 : decode cX6_holdAll 39 = .ok (.aload_n 0, 1) := by decide +kernel
theorem dX6_holdAll_40 : decode cX6_holdAll 40 = .ok (.getfield 68, 3) := by decide +kernel
theorem dX6_holdAll_43 : decode cX6_holdAll 43 = .ok (.iload_n 1, 1) := by decide +kernel
theorem dX6_holdAll_44 : decode cX6_holdAll 44 = .ok (.iaload, 1) := by decide +kernel
theorem dX6_holdAll_45 : decode cX6_holdAll 45 = .ok (.iastore, 1) := by decide +kernel
theorem dX6_holdAll_46 : decode cX6_holdAll 46 = .ok (.iinc 1 1, 3) := by decide +kernel
theorem dX6_holdAll_49 : decode cX6_holdAll 49 = .ok (.goto (-47), 3) := by decide +kernel
theorem dX6_holdAll_52 : decode cX6_holdAll 52 = .ok (.return_, 1) := by decide +kernel
theorem dX6_undoAll_0 : decode cX6_undoAll 0 = .ok (.iconst 0, 1) := by decide +kernel
theorem dX6_undoAll_1 : decode cX6_undoAll 1 = .ok (.istore_n 1, 1) := by decide +kernel
theorem dX6_undoAll_2 : decode cX6_undoAll 2 = .ok (.iload_n 1, 1) := by decide +kernel
theorem dX6_undoAll_3 : decode cX6_undoAll 3 = .ok (.aload_n 0, 1) := by decide +kernel
theorem dX6_undoAll_4 : decode cX6_undoAll 4 = .ok (.getfield 135, 3) := by decide +kernel
theorem dX6_undoAll_7 : decode cX6_undoAll 7 = .ok (.if_icmp .ge 45, 3) := by decide +kernel
theorem dX6_undoAll_10 : decode cX6_undoAll 10 = .ok (.aload_n 0, 1) := by decide +kernel
theorem dX6_undoAll_11 : decode cX6_undoAll 11 = .ok (.getfield 62, 3) := by decide +kernel
theorem dX6_undoAll_14 : decode cX6_undoAll 14 = .ok (.iload_n 1, 1) := by decide +kernel
theorem dX6_undoAll_15 : decode cX6_undoAll 15 = .ok (.aload_n 0, 1) := by decide +kernel
theorem dX6_undoAll_16 : decode cX6_undoAll 16 = .ok (.getfield 113, 3) := by decide +kernel
theorem dX6_undoAll_19 : decode cX6_undoAll 19 = .ok (.iload_n 1, 1) := by decide +kernel
theorem dX6_undoAll_20 : decode cX6_undoAll 20 = .ok (.iaload, 1) := by decide +kernel
theorem dX6_undoAll_21 : decode cX6_undoAll 21 = .ok (.iastore, 1) := by decide +kernel
theorem dX6_undoAll_22 : decode cX6_undoAll 22 = .ok (.aload_n 0, 1) := by decide +kernel
theorem dX6_undoAll_23 : decode cX6_undoAll 23 = .ok (.getfield 65, 3) := by decide +kernel
theorem dX6_undoAll_26 : decode cX6_undoAll 26 = .ok (.iload_n 1, 1) := by decide +kernel
theorem dX6_undoAll_27 : decode cX6_undoAll 27 = .ok (.aload_n 0, 1) := by decide +kernel
theorem dX6_undoAll_28 : decode cX6_undoAll 28 = .ok (.getfield 116, 3) := by decide +kernel
theorem dX6_undoAll_31 : decode cX6_undoAll 31 = .ok (.iload_n 1, 1) := by decide +kernel
theorem dX6_undoAll_32 : decode cX6_undoAll 32 = .ok (.iaload, 1) := by decide +kernel
theorem dX6_undoAll_33 : decode cX6_undoAll 33 = .ok (.iastore, 1) := by decide +kernel
theorem dX6_undoAll_34 : decode cX6_undoAll 34 = .ok (.aload_n 0, 1) := by decide +kernel
theorem dX6_undoAll_35 : decode cX6_undoAll 35 = .ok (.getfield 68, 3) := by decide +kernel
theorem dX6_undoAll_38 : decode cX6_undoAll 38 = .ok (.iload_n 1, 1) := by decide +kernel
theorem dX6_undoAll_39 : decode cX6_undoAll 39 = .ok (.aload_n 0, 1) := by decide +kernel
theorem dX6_undoAll_40 : decode cX6_undoAll 40 = .ok (.getfield 119, 3) := by decide +kernel
theorem dX6_undoAll_43 : decode cX6_undoAll 43 = .ok (.iload_n 1, 1) := by decide +kernel
theorem dX6_undoAll_44 : decode cX6_undoAll 44 = .ok (.iaload, 1) := by decide +kernel
theorem dX6_undoAll_45 : decode cX6_undoAll 45 = .ok (.iastore, 1) := by decide +kernel
theorem dX6_undoAll_46 : decode cX6_undoAll 46 = .ok (.iinc 1 1, 3) := by decide +kernel
theorem dX6_undoAll_49 : decode cX6_undoAll 49 = .ok (.goto (-47), 3) := by decide +kernel
theorem dX6_undoAll_52 : decode cX6_undoAll 52 = .ok (.return_, 1) := by decide +kernel
theorem dX6_takeRows_0 : decode cX6_takeRows 0 = .ok (.aload_n 0, 1) := by decide +kernel
theorem dX6_takeRows_1 : decode cX6_takeRows 1 = .ok (.getfield 19, 3) := by decide +kernel
theorem dX6_takeRows_4 : decode cX6_takeRows 4 = .ok (.iload_n 1, 1) := by decide +kernel
theorem dX6_takeRows_5 : decode cX6_takeRows 5 = .ok (.iaload, 1) := by decide +kernel
theorem dX6_takeRows_6 : decode cX6_takeRows 6 = .ok (.istore_n 2, 1) := by decide +kernel
theorem dX6_takeRows_7 : decode cX6_takeRows 7 = .ok (.aload_n 0, 1) := by decide +kernel
theorem dX6_takeRows_8 : decode cX6_takeRows 8 = .ok (.getfield 22, 3) := by decide +kernel
theorem dX6_takeRows_11 : decode cX6_takeRows 11 = .ok (.iload_n 1, 1) := by decide +kernel
theorem dX6_takeRows_12 : decode cX6_takeRows 12 = .ok (.iaload, 1) := by decide +kernel
theorem dX6_takeRows_13 : decode cX6_takeRows 13 = .ok (.istore_n 3, 1) := by decide +kernel
theorem dX6_takeRows_14 : decode cX6_takeRows 14 = .ok (.aload_n 0, 1) := by decide +kernel
theorem dX6_takeRows_15 : decode cX6_takeRows 15 = .ok (.getfield 25, 3) := by decide +kernel
theorem dX6_takeRows_18 : decode cX6_takeRows 18 = .ok (.iload_n 1, 1) := by decide +kernel
theorem dX6_takeRows_19 : decode cX6_takeRows 19 = .ok (.iaload, 1) := by decide +kernel
theorem dX6_takeRows_20 : decode cX6_takeRows 20 = .ok (.istore 4, 2) := by decide +kernel
theorem dX6_takeRows_22 : decode cX6_takeRows 22 = .ok (.aload_n 0, 1) := by decide +kernel
theorem dX6_takeRows_23 : decode cX6_takeRows 23 = .ok (.getfield 145, 3) := by decide +kernel
theorem dX6_takeRows_26 : decode cX6_takeRows 26 = .ok (.istore 5, 2) := by decide +kernel
theorem dX6_takeRows_28 : decode cX6_takeRows 28 = .ok (.aload_n 0, 1) := by decide +kernel
theorem dX6_takeRows_29 : decode cX6_takeRows 29 = .ok (.invokevirtual 195, 3) := by decide +kernel
theorem dX6_takeRows_32 : decode cX6_takeRows 32 = .ok (.aload_n 0, 1) := by decide +kernel
theorem dX6_takeRows_33 : decode cX6_takeRows 33 = .ok (.invokevirtual 198, 3) := by decide +kernel
theorem dX6_takeRows_36 : decode cX6_takeRows 36 = .ok (.aload_n 0, 1) := by decide +kernel
theorem dX6_takeRows_37 : decode cX6_takeRows 37 = .ok (.iload_n 1, 1) := by decide +kernel
theorem dX6_takeRows_38 : decode cX6_takeRows 38 = .ok (.invokevirtual 201, 3) := by decide +kernel
theorem dX6_takeRows_41 : decode cX6_takeRows 41 = .ok (.istore 6, 2) := by decide +kernel
theorem dX6_takeRows_43 : decode cX6_takeRows 43 = .ok (.iconst 0, 1) := by decide +kernel
theorem dX6_takeRows_44 : decode cX6_takeRows 44 = .ok (.istore 7, 2) := by decide +kernel
theorem dX6_takeRows_46 : decode cX6_takeRows 46 = .ok (.iload 6, 2) := by decide +kernel
theorem dX6_takeRows_48 : decode cX6_takeRows 48 = .ok (.bipush (-9), 2) := by decide +kernel
theorem dX6_takeRows_50 : decode cX6_takeRows 50 = .ok (.if_icmp .eq 143, 3) := by decide +kernel
theorem dX6_takeRows_53 : decode cX6_takeRows 53 = .ok (.aload_n 0, 1) := by decide +kernel
theorem dX6_takeRows_54 : decode cX6_takeRows 54 = .ok (.getfield 19, 3) := by decide +kernel
theorem dX6_takeRows_57 : decode cX6_takeRows 57 = .ok (.iload_n 1, 1) := by decide +kernel
theorem dX6_takeRows_58 : decode cX6_takeRows 58 = .ok (.iaload, 1) := by decide +kernel
theorem dX6_takeRows_59 : decode cX6_takeRows 59 = .ok (.iload_n 2, 1) := by decide +kernel
theorem dX6_takeRows_60 : decode cX6_takeRows 60 = .ok (.isub, 1) := by decide +kernel
theorem dX6_takeRows_61 : decode cX6_takeRows 61 = .ok (.aload_n 0, 1) := by decide +kernel
theorem dX6_takeRows_62 : decode cX6_takeRows 62 = .ok (.getfield 34, 3) := by decide +kernel
theorem dX6_takeRows_65 : decode cX6_takeRows 65 = .ok (.iload_n 1, 1) := by decide +kernel
theorem dX6_takeRows_66 : decode cX6_takeRows 66 = .ok (.iaload, 1) := by decide +kernel
theorem dX6_takeRows_67 : decode cX6_takeRows 67 = .ok (.if_icmp .ge 126, 3) := by decide +kernel
theorem dX6_takeRows_70 : decode cX6_takeRows 70 = .ok (.aload_n 0, 1) := by decide +kernel
theorem dX6_takeRows_71 : decode cX6_takeRows 71 = .ok (.iload_n 1, 1) := by decide +kernel
theorem dX6_takeRows_72 : decode cX6_takeRows 72 = .ok (.invokevirtual 204, 3) := by decide +kernel
theorem dX6_takeRows_75 : decode cX6_takeRows 75 = .ok (.ifCond .eq 118, 3) := by decide +kernel
theorem dX6_takeRows_78 : decode cX6_takeRows 78 = .ok (.iload 7, 2) := by decide +kernel
theorem dX6_takeRows_80 : decode cX6_takeRows 80 = .ok (.ifCond .ne 113, 3) := by decide +kernel
theorem dX6_takeRows_83 : decode cX6_takeRows 83 = .ok (.aload_n 0, 1) := by decide +kernel
theorem dX6_takeRows_84 : decode cX6_takeRows 84 = .ok (.iload_n 1, 1) := by decide +kernel
theorem dX6_takeRows_85 : decode cX6_takeRows 85 = .ok (.iload 6, 2) := by decide +kernel
theorem dX6_takeRows_87 : decode cX6_takeRows 87 = .ok (.invokevirtual 207, 3) := by decide +kernel
theorem dX6_takeRows_90 : decode cX6_takeRows 90 = .ok (.istore 8, 2) := by decide +kernel
theorem dX6_takeRows_92 : decode cX6_takeRows 92 = .ok (.aload_n 0, 1) := by decide +kernel
theorem dX6_takeRows_93 : decode cX6_takeRows 93 = .ok (.iload_n 1, 1) := by decide +kernel
theorem dX6_takeRows_94 : decode cX6_takeRows 94 = .ok (.aload_n 0, 1) := by decide +kernel
theorem dX6_takeRows_95 : decode cX6_takeRows 95 = .ok (.getfield 19, 3) := by decide +kernel
theorem dX6_takeRows_98 : decode cX6_takeRows 98 = .ok (.iload_n 1, 1) := by decide +kernel
theorem dX6_takeRows_99 : decode cX6_takeRows 99 = .ok (.iaload, 1) := by decide +kernel
theorem dX6_takeRows_100 : decode cX6_takeRows 100 = .ok (.invokevirtual 211, 3) := by decide +kernel
theorem dX6_takeRows_103 : decode cX6_takeRows 103 = .ok (.istore 9, 2) := by decide +kernel
theorem dX6_takeRows_105 : decode cX6_takeRows 105 = .ok (.iload 8, 2) := by decide +kernel
theorem dX6_takeRows_107 : decode cX6_takeRows 107 = .ok (.aload_n 0, 1) := by decide +kernel
theorem dX6_takeRows_108 : decode cX6_takeRows 108 = .ok (.getfield 31, 3) := by decide +kernel
theorem dX6_takeRows_111 : decode cX6_takeRows 111 = .ok (.iload_n 1, 1) := by decide +kernel
theorem dX6_takeRows_112 : decode cX6_takeRows 112 = .ok (.iaload, 1) := by decide +kernel
theorem dX6_takeRows_113 : decode cX6_takeRows 113 = .ok (.if_icmp .ne 20, 3) := by decide +kernel
theorem dX6_takeRows_116 : decode cX6_takeRows 116 = .ok (.iload 8, 2) := by decide +kernel
theorem dX6_takeRows_118 : decode cX6_takeRows 118 = .ok (.sipush 1001, 3) := by decide +kernel
theorem dX6_takeRows_121 : decode cX6_takeRows 121 = .ok (.if_icmp .eq 12, 3) := by decide +kernel
theorem dX6_takeRows_124 : decode cX6_takeRows 124 = .ok (.iload 9, 2) := by decide +kernel
theorem dX6_takeRows_126 : decode cX6_takeRows 126 = .ok (.ifCond .ne 7, 3) := by decide +kernel
theorem dX6_takeRows_129 : decode cX6_takeRows 129 = .ok (.iconst 1, 1) := by decide +kernel
theorem dX6_takeRows_130 : decode cX6_takeRows 130 = .ok (.goto 4, 3) := by decide +kernel
theorem dX6_takeRows_133 : decode cX6_takeRows 133 = .ok (.iconst 0, 1) := by decide +kernel
theorem dX6_takeRows_134 : decode cX6_takeRows 134 = .ok (.istore 7, 2) := by decide +kernel
theorem dX6_takeRows_136 : decode cX6_takeRows 136 = .ok (.iload 7, 2) := by decide +kernel
theorem dX6_takeRows_138 : decode cX6_takeRows 138 = .ok (.ifCond .ne 52, 3) := by decide +kernel
theorem dX6_takeRows_141 : decode cX6_takeRows 141 = .ok (.iload 9, 2) := by decide +kernel
theorem dX6_takeRows_143 : decode cX6_takeRows 143 = .ok (.ifCond .ne 10, 3) := by decide +kernel
theorem dX6_takeRows_146 : decode cX6_takeRows 146 = .ok (.aload_n 0, 1) := by decide +kernel
theorem dX6_takeRows_147 : decode cX6_takeRows 147 = .ok (.iload_n 1, 1) := by decide +kernel
theorem dX6_takeRows_148 : decode cX6_takeRows 148 = .ok (.iload 8, 2) := by decide +kernel
theorem dX6_takeRows_150 : decode cX6_takeRows 150 = .ok (.invokevirtual 215, 3) := by decide +kernel
theorem dX6_takeRows_153 : decode cX6_takeRows 153 = .ok (.aload_n 0, 1) := by decide +kernel
theorem dX6_takeRows_154 : decode cX6_takeRows 154 = .ok (.getfield 19, 3) := by decide +kernel
theorem dX6_takeRows_157 : decode cX6_takeRows 157 = .ok (.iload_n 1, 1) := by decide +kernel
theorem dX6_takeRows_158 : decode cX6_takeRows 158 = .ok (.dup2, 1) := by decide +kernel
theorem dX6_takeRows_159 : decode cX6_takeRows 159 = .ok (.iaload, 1) := by decide +kernel
theorem dX6_takeRows_160 : decode cX6_takeRows 160 = .ok (.iconst 1, 1) := by decide +kernel
theorem dX6_takeRows_161 : decode cX6_takeRows 161 = .ok (.iadd, 1) := by decide +kernel
theorem dX6_takeRows_162 : decode cX6_takeRows 162 = .ok (.iastore, 1) := by decide +kernel
theorem dX6_takeRows_163 : decode cX6_takeRows 163 = .ok (.iload 6, 2) := by decide +kernel
theorem dX6_takeRows_165 : decode cX6_takeRows 165 = .ok (.ifCond .lt 14, 3) := by decide +kernel
theorem dX6_takeRows_168 : decode cX6_takeRows 168 = .ok (.aload_n 0, 1) := by decide +kernel
theorem dX6_takeRows_169 : decode cX6_takeRows 169 = .ok (.getfield 68, 3) := by decide +kernel
theorem dX6_takeRows_172 : decode cX6_takeRows 172 = .ok (.iload 6, 2) := by decide +kernel
theorem dX6_takeRows_174 : decode cX6_takeRows 174 = .ok (.dup2, 1) := by decide +kernel
theorem dX6_takeRows_175 : decode cX6_takeRows 175 = .ok (.iaload, 1) := by decide +kernel
theorem dX6_takeRows_176 : decode cX6_takeRows 176 = .ok (.iconst 1, 1) := by decide +kernel
theorem dX6_takeRows_177 : decode cX6_takeRows 177 = .ok (.iadd, 1) := by decide +kernel
theorem dX6_takeRows_178 : decode cX6_takeRows 178 = .ok (.iastore, 1) := by decide +kernel
theorem dX6_takeRows_179 : decode cX6_takeRows 179 = .ok (.aload_n 0, 1) := by decide +kernel
theorem dX6_takeRows_180 : decode cX6_takeRows 180 = .ok (.invokevirtual 198, 3) := by decide +kernel
theorem dX6_takeRows_183 : decode cX6_takeRows 183 = .ok (.aload_n 0, 1) := by decide +kernel
theorem dX6_takeRows_184 : decode cX6_takeRows 184 = .ok (.iload_n 1, 1) := by decide +kernel
theorem dX6_takeRows_185 : decode cX6_takeRows 185 = .ok (.invokevirtual 201, 3) := by decide +kernel
theorem dX6_takeRows_188 : decode cX6_takeRows 188 = .ok (.istore 6, 2) := by decide +kernel
theorem dX6_takeRows_190 : decode cX6_takeRows 190 = .ok (.goto (-144), 3) := by decide +kernel
theorem dX6_takeRows_193 : decode cX6_takeRows 193 = .ok (.aload_n 0, 1) := by decide +kernel
theorem dX6_takeRows_194 : decode cX6_takeRows 194 = .ok (.getfield 19, 3) := by decide +kernel
theorem dX6_takeRows_197 : decode cX6_takeRows 197 = .ok (.iload_n 1, 1) := by decide +kernel
theorem dX6_takeRows_198 : decode cX6_takeRows 198 = .ok (.iaload, 1) := by decide +kernel
theorem dX6_takeRows_199 : decode cX6_takeRows 199 = .ok (.iload_n 2, 1) := by decide +kernel
theorem dX6_takeRows_200 : decode cX6_takeRows 200 = .ok (.isub, 1) := by decide +kernel
theorem dX6_takeRows_201 : decode cX6_takeRows 201 = .ok (.istore 8, 2) := by decide +kernel
theorem dX6_takeRows_203 : decode cX6_takeRows 203 = .ok (.iload 7, 2) := by decide +kernel
theorem dX6_takeRows_205 : decode cX6_takeRows 205 = .ok (.ifCond .eq 35, 3) := by decide +kernel
theorem dX6_takeRows_208 : decode cX6_takeRows 208 = .ok (.aload_n 0, 1) := by decide +kernel
theorem dX6_takeRows_209 : decode cX6_takeRows 209 = .ok (.getfield 19, 3) := by decide +kernel
theorem dX6_takeRows_212 : decode cX6_takeRows 212 = .ok (.iload_n 1, 1) := by decide +kernel
theorem dX6_takeRows_213 : decode cX6_takeRows 213 = .ok (.iload_n 2, 1) := by decide +kernel
theorem dX6_takeRows_214 : decode cX6_takeRows 214 = .ok (.iastore, 1) := by decide +kernel
theorem dX6_takeRows_215 : decode cX6_takeRows 215 = .ok (.aload_n 0, 1) := by decide +kernel
theorem dX6_takeRows_216 : decode cX6_takeRows 216 = .ok (.getfield 22, 3) := by decide +kernel
theorem dX6_takeRows_219 : decode cX6_takeRows 219 = .ok (.iload_n 1, 1) := by decide +kernel
theorem dX6_takeRows_220 : decode cX6_takeRows 220 = .ok (.iload_n 3, 1) := by decide +kernel
theorem dX6_takeRows_221 : decode cX6_takeRows 221 = .ok (.iastore, 1) := by decide +kernel
theorem dX6_takeRows_222 : decode cX6_takeRows 222 = .ok (.aload_n 0, 1) := by decide +kernel
theorem dX6_takeRows_223 : decode cX6_takeRows 223 = .ok (.getfield 25, 3) := by decide +kernel
theorem dX6_takeRows_226 : decode cX6_takeRows 226 = .ok (.iload_n 1, 1) := by decide +kernel
theorem dX6_takeRows_227 : decode cX6_takeRows 227 = .ok (.iload 4, 2) := by decide +kernel
theorem dX6_takeRows_229 : decode cX6_takeRows 229 = .ok (.iastore, 1) := by decide +kernel
theorem dX6_takeRows_230 : decode cX6_takeRows 230 = .ok (.aload_n 0, 1) := by decide +kernel
theorem dX6_takeRows_231 : decode cX6_takeRows 231 = .ok (.iload 5, 2) := by decide +kernel
theorem dX6_takeRows_233 : decode cX6_takeRows 233 = .ok (.putfield 145, 3) := by decide +kernel
theorem dX6_takeRows_236 : decode cX6_takeRows 236 = .ok (.aload_n 0, 1) := by decide +kernel
theorem dX6_takeRows_237 : decode cX6_takeRows 237 = .ok (.invokevirtual 218, 3) := by decide +kernel
theorem dX6_takeRows_240 : decode cX6_takeRows 240 = .ok (.iload 7, 2) := by decide +kernel
theorem dX6_takeRows_242 : decode cX6_takeRows 242 = .ok (.ifCond .eq 10, 3) := by decide +kernel
theorem dX6_takeRows_245 : decode cX6_takeRows 245 = .ok (.iconst (-1), 1) := by decide +kernel
theorem dX6_takeRows_246 : decode cX6_takeRows 246 = .ok (.iload 8, 2) := by decide +kernel
theorem dX6_takeRows_248 : decode cX6_takeRows 248 = .ok (.isub, 1) := by decide +kernel
theorem dX6_takeRows_249 : decode cX6_takeRows 249 = .ok (.goto 5, 3) := by decide +kernel
theorem dX6_takeRows_252 : decode cX6_takeRows 252 = .ok (.iload 8, 2) := by decide +kernel
theorem dX6_takeRows_254 : decode cX6_takeRows 254 = .ok (.ireturn, 1) := by decide +kernel
theorem dX6_step_0 : decode cX6_step 0 = .ok (.aload_n 0, 1) := by decide +kernel
theorem dX6_step_1 : decode cX6_step 1 = .ok (.iload_n 1, 1) := by decide +kernel
theorem dX6_step_2 : decode cX6_step 2 = .ok (.invokevirtual 177, 3) := by decide +kernel
theorem dX6_step_5 : decode cX6_step 5 = .ok (.ifCond .eq 5, 3) := by decide +kernel
theorem dX6_step_8 : decode cX6_step 8 = .ok (.iconst (-1), 1) := by decide +kernel
theorem dX6_step_9 : decode cX6_step 9 = .ok (.ireturn, 1) := by decide +kernel
theorem dX6_step_10 : decode cX6_step 10 = .ok (.aload_n 0, 1) := by decide +kernel
theorem dX6_step_11 : decode cX6_step 11 = .ok (.getfield 163, 3) := by decide +kernel
theorem dX6_step_14 : decode cX6_step 14 = .ok (.ifCond .ne 16, 3) := by decide +kernel
theorem dX6_step_17 : decode cX6_step 17 = .ok (.aload_n 0, 1) := by decide +kernel
theorem dX6_step_18 : decode cX6_step 18 = .ok (.getfield 40, 3) := by decide +kernel
theorem dX6_step_21 : decode cX6_step 21 = .ok (.iload_n 1, 1) := by decide +kernel
theorem dX6_step_22 : decode cX6_step 22 = .ok (.iaload, 1) := by decide +kernel
theorem dX6_step_23 : decode cX6_step 23 = .ok (.aload_n 0, 1) := by decide +kernel
theorem dX6_step_24 : decode cX6_step 24 = .ok (.getfield 148, 3) := by decide +kernel
theorem dX6_step_27 : decode cX6_step 27 = .ok (.if_icmp .le 6, 3) := by decide +kernel
theorem dX6_step_30 : decode cX6_step 30 = .ok (.bipush (-3), 2) := by decide +kernel
theorem dX6_step_32 : decode cX6_step 32 = .ok (.ireturn, 1) := by decide +kernel
theorem dX6_step_33 : decode cX6_step 33 = .ok (.aload_n 0, 1) := by decide +kernel
theorem dX6_step_34 : decode cX6_step 34 = .ok (.iconst 1, 1) := by decide +kernel
theorem dX6_step_35 : decode cX6_step 35 = .ok (.putfield 154, 3) := by decide +kernel
theorem dX6_step_38 : decode cX6_step 38 = .ok (.aload_n 0, 1) := by decide +kernel
theorem dX6_step_39 : decode cX6_step 39 = .ok (.iload_n 1, 1) := by decide +kernel
theorem dX6_step_40 : decode cX6_step 40 = .ok (.invokevirtual 221, 3) := by decide +kernel
theorem dX6_step_43 : decode cX6_step 43 = .ok (.istore_n 2, 1) := by decide +kernel
theorem dX6_step_44 : decode cX6_step 44 = .ok (.iload_n 2, 1) := by decide +kernel
theorem dX6_step_45 : decode cX6_step 45 = .ok (.ifCond .lt 82, 3) := by decide +kernel
theorem dX6_step_48 : decode cX6_step 48 = .ok (.aload_n 0, 1) := by decide +kernel
theorem dX6_step_49 : decode cX6_step 49 = .ok (.dup, 1) := by decide +kernel
theorem dX6_step_50 : decode cX6_step 50 = .ok (.getfield 151, 3) := by decide +kernel
theorem dX6_step_53 : decode cX6_step 53 = .ok (.iconst 1, 1) := by decide +kernel
theorem dX6_step_54 : decode cX6_step 54 = .ok (.iadd, 1) := by decide +kernel
theorem dX6_step_55 : decode cX6_step 55 = .ok (.putfield 151, 3) := by decide +kernel
theorem dX6_step_58 : decode cX6_step 58 = .ok (.iconst 0, 1) := by decide +kernel
theorem dX6_step_59 : decode cX6_step 59 = .ok (.istore_n 3, 1) := by decide +kernel
theorem dX6_step_60 : decode cX6_step 60 = .ok (.iload_n 3, 1) := by decide +kernel
theorem dX6_step_61 : decode cX6_step 61 = .ok (.aload_n 0, 1) := by decide +kernel
theorem dX6_step_62 : decode cX6_step 62 = .ok (.getfield 135, 3) := by decide +kernel
theorem dX6_step_65 : decode cX6_step 65 = .ok (.if_icmp .ge 60, 3) := by decide +kernel
theorem dX6_step_68 : decode cX6_step 68 = .ok (.aload_n 0, 1) := by decide +kernel
theorem dX6_step_69 : decode cX6_step 69 = .ok (.getfield 71, 3) := by decide +kernel
theorem dX6_step_72 : decode cX6_step 72 = .ok (.iload_n 3, 1) := by decide +kernel
theorem dX6_step_73 : decode cX6_step 73 = .ok (.aload_n 0, 1) := by decide +kernel
theorem dX6_step_74 : decode cX6_step 74 = .ok (.getfield 68, 3) := by decide +kernel
theorem dX6_step_77 : decode cX6_step 77 = .ok (.iload_n 3, 1) := by decide +kernel
theorem dX6_step_78 : decode cX6_step 78 = .ok (.iaload, 1) := by decide +kernel
theorem dX6_step_79 : decode cX6_step 79 = .ok (.aload_n 0, 1) := by decide +kernel
theorem dX6_step_80 : decode cX6_step 80 = .ok (.getfield 119, 3) := by decide +kernel
theorem dX6_step_83 : decode cX6_step 83 = .ok (.iload_n 3, 1) := by decide +kernel
theorem dX6_step_84 : decode cX6_step 84 = .ok (.iaload, 1) := by decide +kernel
theorem dX6_step_85 : decode cX6_step 85 = .ok (.if_icmp .le 27, 3) := by decide +kernel
theorem dX6_step_88 : decode cX6_step 88 = .ok (.aload_n 0, 1) := by decide +kernel
theorem dX6_step_89 : decode cX6_step 89 = .ok (.getfield 68, 3) := by decide +kernel
theorem dX6_step_92 : decode cX6_step 92 = .ok (.iload_n 3, 1) := by decide +kernel
theorem dX6_step_93 : decode cX6_step 93 = .ok (.iaload, 1) := by decide +kernel
theorem dX6_step_94 : decode cX6_step 94 = .ok (.aload_n 0, 1) := by decide +kernel
theorem dX6_step_95 : decode cX6_step 95 = .ok (.getfield 71, 3) := by decide +kernel
theorem dX6_step_98 : decode cX6_step 98 = .ok (.iload_n 3, 1) := by decide +kernel
theorem dX6_step_99 : decode cX6_step 99 = .ok (.iaload, 1) := by decide +kernel
theorem dX6_step_100 : decode cX6_step 100 = .ok (.if_icmp .le 12, 3) := by decide +kernel
theorem dX6_step_103 : decode cX6_step 103 = .ok (.aload_n 0, 1) := by decide +kernel
theorem dX6_step_104 : decode cX6_step 104 = .ok (.getfield 68, 3) := by decide +kernel
theorem dX6_step_107 : decode cX6_step 107 = .ok (.iload_n 3, 1) := by decide +kernel
theorem dX6_step_108 : decode cX6_step 108 = .ok (.iaload, 1) := by decide +kernel
theorem dX6_step_109 : decode cX6_step 109 = .ok (.goto 9, 3) := by decide +kernel
theorem dX6_step_112 : decode cX6_step 112 = .ok (.aload_n 0, 1) := by decide +kernel
theorem dX6_step_113 : decode cX6_step 113 = .ok (.getfield 71, 3) := by decide +kernel
theorem dX6_step_116 : decode cX6_step 116 = .ok (.iload_n 3, 1) := by decide +kernel
theorem dX6_step_117 : decode cX6_step 117 = .ok (.iaload, 1) := by decide +kernel
theorem dX6_step_118 : decode cX6_step 118 = .ok (.iastore, 1) := by decide +kernel
theorem dX6_step_119 : decode cX6_step 119 = .ok (.iinc 3 1, 3) := by decide +kernel
theorem dX6_step_122 : decode cX6_step 122 = .ok (.goto (-62), 3) := by decide +kernel
theorem dX6_step_125 : decode cX6_step 125 = .ok (.iload_n 2, 1) := by decide +kernel
theorem dX6_step_126 : decode cX6_step 126 = .ok (.ireturn, 1) := by decide +kernel
theorem dX6_step_127 : decode cX6_step 127 = .ok (.aload_n 0, 1) := by decide +kernel
theorem dX6_step_128 : decode cX6_step 128 = .ok (.getfield 34, 3) := by decide +kernel
theorem dX6_step_131 : decode cX6_step 131 = .ok (.iload_n 1, 1) := by decide +kernel
theorem dX6_step_132 : decode cX6_step 132 = .ok (.iaload, 1) := by decide +kernel
theorem dX6_step_133 : decode cX6_step 133 = .ok (.iconst 1, 1) := by decide +kernel
theorem dX6_step_134 : decode cX6_step 134 = .ok (.if_icmp .le 20, 3) := by decide +kernel
theorem dX6_step_137 : decode cX6_step 137 = .ok (.aload_n 0, 1) := by decide +kernel
theorem dX6_step_138 : decode cX6_step 138 = .ok (.getfield 34, 3) := by decide +kernel
theorem dX6_step_141 : decode cX6_step 141 = .ok (.iload_n 1, 1) := by decide +kernel
theorem dX6_step_142 : decode cX6_step 142 = .ok (.aload_n 0, 1) := by decide +kernel
theorem dX6_step_143 : decode cX6_step 143 = .ok (.getfield 34, 3) := by decide +kernel
theorem dX6_step_146 : decode cX6_step 146 = .ok (.iload_n 1, 1) := by decide +kernel
theorem dX6_step_147 : decode cX6_step 147 = .ok (.iaload, 1) := by decide +kernel
theorem dX6_step_148 : decode cX6_step 148 = .ok (.iconst 2, 1) := by decide +kernel
theorem dX6_step_149 : decode cX6_step 149 = .ok (.idiv, 1) := by decide +kernel
theorem dX6_step_150 : decode cX6_step 150 = .ok (.iastore, 1) := by decide +kernel
theorem dX6_step_151 : decode cX6_step 151 = .ok (.goto 61, 3) := by decide +kernel
theorem dX6_step_154 : decode cX6_step 154 = .ok (.aload_n 0, 1) := by decide +kernel
theorem dX6_step_155 : decode cX6_step 155 = .ok (.getfield 141, 3) := by decide +kernel
theorem dX6_step_158 : decode cX6_step 158 = .ok (.ifCond .eq 54, 3) := by decide +kernel
theorem dX6_step_161 : decode cX6_step 161 = .ok (.aload_n 0, 1) := by decide +kernel
theorem dX6_step_162 : decode cX6_step 162 = .ok (.getfield 43, 3) := by decide +kernel
theorem dX6_step_165 : decode cX6_step 165 = .ok (.iload_n 1, 1) := by decide +kernel
theorem dX6_step_166 : decode cX6_step 166 = .ok (.iaload, 1) := by decide +kernel
theorem dX6_step_167 : decode cX6_step 167 = .ok (.bipush 8, 2) := by decide +kernel
theorem dX6_step_169 : decode cX6_step 169 = .ok (.if_icmp .ge 43, 3) := by decide +kernel
theorem dX6_step_172 : decode cX6_step 172 = .ok (.aload_n 0, 1) := by decide +kernel
theorem dX6_step_173 : decode cX6_step 173 = .ok (.getfield 46, 3) := by decide +kernel
theorem dX6_step_176 : decode cX6_step 176 = .ok (.bipush 8, 2) := by decide +kernel
theorem dX6_step_178 : decode cX6_step 178 = .ok (.iload_n 1, 1) := by decide +kernel
theorem dX6_step_179 : decode cX6_step 179 = .ok (.imul, 1) := by decide +kernel
theorem dX6_step_180 : decode cX6_step 180 = .ok (.aload_n 0, 1) := by decide +kernel
theorem dX6_step_181 : decode cX6_step 181 = .ok (.getfield 43, 3) := by decide +kernel
theorem dX6_step_184 : decode cX6_step 184 = .ok (.iload_n 1, 1) := by decide +kernel
theorem dX6_step_185 : decode cX6_step 185 = .ok (.iaload, 1) := by decide +kernel
theorem dX6_step_186 : decode cX6_step 186 = .ok (.iadd, 1) := by decide +kernel
theorem dX6_step_187 : decode cX6_step 187 = .ok (.aload_n 0, 1) := by decide +kernel
theorem dX6_step_188 : decode cX6_step 188 = .ok (.getfield 19, 3) := by decide +kernel
theorem dX6_step_191 : decode cX6_step 191 = .ok (.iload_n 1, 1) := by decide +kernel
theorem dX6_step_192 : decode cX6_step 192 = .ok (.iaload, 1) := by decide +kernel
theorem dX6_step_193 : decode cX6_step 193 = .ok (.iastore, 1) := by decide +kernel
theorem dX6_step_194 : decode cX6_step 194 = .ok (.aload_n 0, 1) := by decide +kernel
theorem dX6_step_195 : decode cX6_step 195 = .ok (.getfield 43, 3) := by decide +kernel
theorem dX6_step_198 : decode cX6_step 198 = .ok (.iload_n 1, 1) := by decide +kernel
theorem dX6_step_199 : decode cX6_step 199 = .ok (.dup2, 1) := by decide +kernel
theorem dX6_step_200 : decode cX6_step 200 = .ok (.iaload, 1) := by decide +kernel
theorem dX6_step_201 : decode cX6_step 201 = .ok (.iconst 1, 1) := by decide +kernel
theorem dX6_step_202 : decode cX6_step 202 = .ok (.iadd, 1) := by decide +kernel
theorem dX6_step_203 : decode cX6_step 203 = .ok (.iastore, 1) := by decide +kernel
theorem dX6_step_204 : decode cX6_step 204 = .ok (.aload_n 0, 1) := by decide +kernel
theorem dX6_step_205 : decode cX6_step 205 = .ok (.getfield 34, 3) := by decide +kernel
theorem dX6_step_208 : decode cX6_step 208 = .ok (.iload_n 1, 1) := by decide +kernel
theorem dX6_step_209 : decode cX6_step 209 = .ok (.bipush 8, 2) := by decide +kernel
theorem dX6_step_211 : decode cX6_step 211 = .ok (.iastore, 1) := by decide +kernel
theorem dX6_step_212 : decode cX6_step 212 = .ok (.aload_n 0, 1) := by decide +kernel
theorem dX6_step_213 : decode cX6_step 213 = .ok (.iload_n 1, 1) := by decide +kernel
theorem dX6_step_214 : decode cX6_step 214 = .ok (.iconst 0, 1) := by decide +kernel
theorem dX6_step_215 : decode cX6_step 215 = .ok (.invokevirtual 224, 3) := by decide +kernel
theorem dX6_step_218 : decode cX6_step 218 = .ok (.istore_n 3, 1) := by decide +kernel
theorem dX6_step_219 : decode cX6_step 219 = .ok (.bipush (-5), 2) := by decide +kernel
theorem dX6_step_221 : decode cX6_step 221 = .ok (.ireturn, 1) := by decide +kernel
theorem dX6_noRegion_0 : decode cX6_noRegion 0 = .ok (.iconst 0, 1) := by decide +kernel
theorem dX6_noRegion_1 : decode cX6_noRegion 1 = .ok (.istore_n 1, 1) := by decide +kernel
theorem dX6_noRegion_2 : decode cX6_noRegion 2 = .ok (.iload_n 1, 1) := by decide +kernel
theorem dX6_noRegion_3 : decode cX6_noRegion 3 = .ok (.bipush 16, 2) := by decide +kernel
theorem dX6_noRegion_5 : decode cX6_noRegion 5 = .ok (.if_icmp .ge 23, 3) := by decide +kernel
theorem dX6_noRegion_8 : decode cX6_noRegion 8 = .ok (.aload_n 0, 1) := by decide +kernel
theorem dX6_noRegion_9 : decode cX6_noRegion 9 = .ok (.getfield 122, 3) := by decide +kernel
theorem dX6_noRegion_12 : decode cX6_noRegion 12 = .ok (.iload_n 1, 1) := by decide +kernel
theorem dX6_noRegion_13 : decode cX6_noRegion 13 = .ok (.iconst 0, 1) := by decide +kernel
theorem dX6_noRegion_14 : decode cX6_noRegion 14 = .ok (.bastore, 1) := by decide +kernel
theorem dX6_noRegion_15 : decode cX6_noRegion 15 = .ok (.aload_n 0, 1) := by decide +kernel
theorem dX6_noRegion_16 : decode cX6_noRegion 16 = .ok (.getfield 125, 3) := by decide +kernel
theorem dX6_noRegion_19 : decode cX6_noRegion 19 = .ok (.iload_n 1, 1) := by decide +kernel
theorem dX6_noRegion_20 : decode cX6_noRegion 20 = .ok (.iconst 0, 1) := by decide +kernel
theorem dX6_noRegion_21 : decode cX6_noRegion 21 = .ok (.bastore, 1) := by decide +kernel
theorem dX6_noRegion_22 : decode cX6_noRegion 22 = .ok (.iinc 1 1, 3) := by decide +kernel
theorem dX6_noRegion_25 : decode cX6_noRegion 25 = .ok (.goto (-23), 3) := by decide +kernel
theorem dX6_noRegion_28 : decode cX6_noRegion 28 = .ok (.return_, 1) := by decide +kernel
theorem dX6_grow_0 : decode cX6_grow 0 = .ok (.iconst 1, 1) := by decide +kernel
theorem dX6_grow_1 : decode cX6_grow 1 = .ok (.istore_n 1, 1) := by decide +kernel
theorem dX6_grow_2 : decode cX6_grow 2 = .ok (.iload_n 1, 1) := by decide +kernel
theorem dX6_grow_3 : decode cX6_grow 3 = .ok (.ifCond .eq 261, 3) := by decide +kernel
theorem dX6_grow_6 : decode cX6_grow 6 = .ok (.iconst 0, 1) := by decide +kernel
theorem dX6_grow_7 : decode cX6_grow 7 = .ok (.istore_n 1, 1) := by decide +kernel
theorem dX6_grow_8 : decode cX6_grow 8 = .ok (.iconst 0, 1) := by decide +kernel
theorem dX6_grow_9 : decode cX6_grow 9 = .ok (.istore_n 2, 1) := by decide +kernel
theorem dX6_grow_10 : decode cX6_grow 10 = .ok (.iload_n 2, 1) := by decide +kernel
theorem dX6_grow_11 : decode cX6_grow 11 = .ok (.aload_n 0, 1) := by decide +kernel
theorem dX6_grow_12 : decode cX6_grow 12 = .ok (.getfield 131, 3) := by decide +kernel
theorem dX6_grow_15 : decode cX6_grow 15 = .ok (.if_icmp .ge 44, 3) := by decide +kernel
theorem dX6_grow_18 : decode cX6_grow 18 = .ok (.aload_n 0, 1) := by decide +kernel
theorem dX6_grow_19 : decode cX6_grow 19 = .ok (.getfield 122, 3) := by decide +kernel
theorem dX6_grow_22 : decode cX6_grow 22 = .ok (.iload_n 2, 1) := by decide +kernel
theorem dX6_grow_23 : decode cX6_grow 23 = .ok (.baload, 1) := by decide +kernel
theorem dX6_grow_24 : decode cX6_grow 24 = .ok (.ifCond .eq 29, 3) := by decide +kernel
theorem dX6_grow_27 : decode cX6_grow 27 = .ok (.aload_n 0, 1) := by decide +kernel
theorem dX6_grow_28 : decode cX6_grow 28 = .ok (.getfield 125, 3) := by decide +kernel
theorem dX6_grow_31 : decode cX6_grow 31 = .ok (.iload_n 2, 1) := by decide +kernel
theorem dX6_grow_32 : decode cX6_grow 32 = .ok (.baload, 1) := by decide +kernel
theorem dX6_grow_33 : decode cX6_grow 33 = .ok (.ifCond .ne 20, 3) := by decide +kernel
theorem dX6_grow_36 : decode cX6_grow 36 = .ok (.aload_n 0, 1) := by decide +kernel
theorem dX6_grow_37 : decode cX6_grow 37 = .ok (.iload_n 2, 1) := by decide +kernel
theorem dX6_grow_38 : decode cX6_grow 38 = .ok (.invokevirtual 227, 3) := by decide +kernel
theorem dX6_grow_41 : decode cX6_grow 41 = .ok (.ifCond .eq 12, 3) := by decide +kernel
theorem dX6_grow_44 : decode cX6_grow 44 = .ok (.aload_n 0, 1) := by decide +kernel
theorem dX6_grow_45 : decode cX6_grow 45 = .ok (.getfield 125, 3) := by decide +kernel
theorem dX6_grow_48 : decode cX6_grow 48 = .ok (.iload_n 2, 1) := by decide +kernel
theorem dX6_grow_49 : decode cX6_grow 49 = .ok (.iconst 1, 1) := by decide +kernel
theorem dX6_grow_50 : decode cX6_grow 50 = .ok (.bastore, 1) := by decide +kernel
theorem dX6_grow_51 : decode cX6_grow 51 = .ok (.iconst 1, 1) := by decide +kernel
theorem dX6_grow_52 : decode cX6_grow 52 = .ok (.istore_n 1, 1) := by decide +kernel
theorem dX6_grow_53 : decode cX6_grow 53 = .ok (.iinc 2 1, 3) := by decide +kernel
theorem dX6_grow_56 : decode cX6_grow 56 = .ok (.goto (-46), 3) := by decide +kernel
theorem dX6_grow_59 : decode cX6_grow 59 = .ok (.iconst 0, 1) := by decide +kernel
theorem dX6_grow_60 : decode cX6_grow 60 = .ok (.istore_n 2, 1) := by decide +kernel
theorem dX6_grow_61 : decode cX6_grow 61 = .ok (.iload_n 2, 1) := by decide +kernel
theorem dX6_grow_62 : decode cX6_grow 62 = .ok (.aload_n 0, 1) := by decide +kernel
theorem dX6_grow_63 : decode cX6_grow 63 = .ok (.getfield 135, 3) := by decide +kernel
theorem dX6_grow_66 : decode cX6_grow 66 = .ok (.if_icmp .ge 195, 3) := by decide +kernel
theorem dX6_grow_69 : decode cX6_grow 69 = .ok (.aload_n 0, 1) := by decide +kernel
theorem dX6_grow_70 : decode cX6_grow 70 = .ok (.getfield 122, 3) := by decide +kernel
theorem dX6_grow_73 : decode cX6_grow 73 = .ok (.aload_n 0, 1) := by decide +kernel
theorem dX6_grow_74 : decode cX6_grow 74 = .ok (.getfield 52, 3) := by decide +kernel
theorem dX6_grow_77 : decode cX6_grow 77 = .ok (.iload_n 2, 1) := by decide +kernel
theorem dX6_grow_78 : decode cX6_grow 78 = .ok (.iaload, 1) := by decide +kernel
theorem dX6_grow_79 : decode cX6_grow 79 = .ok (.baload, 1) := by decide +kernel
theorem dX6_grow_80 : decode cX6_grow 80 = .ok (.ifCond .eq 25, 3) := by decide +kernel
theorem dX6_grow_83 : decode cX6_grow 83 = .ok (.aload_n 0, 1) := by decide +kernel
theorem dX6_grow_84 : decode cX6_grow 84 = .ok (.getfield 55, 3) := by decide +kernel
theorem dX6_grow_87 : decode cX6_grow 87 = .ok (.iload_n 2, 1) := by decide +kernel
theorem dX6_grow_88 : decode cX6_grow 88 = .ok (.baload, 1) := by decide +kernel
theorem dX6_grow_89 : decode cX6_grow 89 = .ok (.ifCond .eq 12, 3) := by decide +kernel
theorem dX6_grow_92 : decode cX6_grow 92 = .ok (.aload_n 0, 1) := by decide +kernel
theorem dX6_grow_93 : decode cX6_grow 93 = .ok (.getfield 74, 3) := by decide +kernel
theorem dX6_grow_96 : decode cX6_grow 96 = .ok (.iload_n 2, 1) := by decide +kernel
theorem dX6_grow_97 : decode cX6_grow 97 = .ok (.baload, 1) := by decide +kernel
theorem dX6_grow_98 : decode cX6_grow 98 = .ok (.ifCond .eq 7, 3) := by decide +kernel
theorem dX6_grow_101 : decode cX6_grow 101 = .ok (.iconst 1, 1) := by decide +kernel
theorem dX6_grow_102 : decode cX6_grow 102 = .ok (.goto 4, 3) := by decide +kernel
theorem dX6_grow_105 : decode cX6_grow 105 = .ok (.iconst 0, 1) := by decide +kernel
theorem dX6_grow_106 : decode cX6_grow 106 = .ok (.istore_n 3, 1) := by decide +kernel
theorem dX6_grow_107 : decode cX6_grow 107 = .ok (.aload_n 0, 1) := by decide +kernel
theorem dX6_grow_108 : decode cX6_grow 108 = .ok (.getfield 122, 3) := by decide +kernel
theorem dX6_grow_111 : decode cX6_grow 111 = .ok (.aload_n 0, 1) := by decide +kernel
theorem dX6_grow_112 : decode cX6_grow 112 = .ok (.getfield 49, 3) := by decide +kernel
theorem dX6_grow_115 : decode cX6_grow 115 = .ok (.iload_n 2, 1) := by decide +kernel
theorem dX6_grow_116 : decode cX6_grow 116 = .ok (.iaload, 1) := by decide +kernel
theorem dX6_grow_117 : decode cX6_grow 117 = .ok (.baload, 1) := by decide +kernel
theorem dX6_grow_118 : decode cX6_grow 118 = .ok (.ifCond .eq 69, 3) := by decide +kernel
theorem dX6_grow_121 : decode cX6_grow 121 = .ok (.aload_n 0, 1) := by decide +kernel
theorem dX6_grow_122 : decode cX6_grow 122 = .ok (.getfield 55, 3) := by decide +kernel
theorem dX6_grow_125 : decode cX6_grow 125 = .ok (.iload_n 2, 1) := by decide +kernel
theorem dX6_grow_126 : decode cX6_grow 126 = .ok (.baload, 1) := by decide +kernel
theorem dX6_grow_127 : decode cX6_grow 127 = .ok (.ifCond .eq 56, 3) := by decide +kernel
theorem dX6_grow_130 : decode cX6_grow 130 = .ok (.aload_n 0, 1) := by decide +kernel
