theorem dX6_init_105 : decode cX6_init 105 = .ok (.newarray .int, 2) := by decide +kernel
theorem dX6_init_107 : decode cX6_init 107 = .ok (.putfield 46, 3) := by decide +kernel
theorem dX6_init_110 : decode cX6_init 110 = .ok (.aload_n 0, 1) := by decide +kernel
theorem dX6_init_111 : decode cX6_init 111 = .ok (.bipush 40, 2) := by decide +kernel
theorem dX6_init_113 : decode cX6_init 113 = .ok (.newarray .int, 2) := by decide +kernel
theorem dX6_init_115 : decode cX6_init 115 = .ok (.putfield 49, 3) := by decide +kernel
theorem dX6_init_118 : decode cX6_init 118 = .ok (.aload_n 0, 1) := by decide +kernel
theorem dX6_init_119 : decode cX6_init 119 = .ok (.bipush 40, 2) := by decide +kernel
theorem dX6_init_121 : decode cX6_init 121 = .ok (.newarray .int, 2) := by decide +kernel
theorem dX6_init_123 : decode cX6_init 123 = .ok (.putfield 52, 3) := by decide +kernel
theorem dX6_init_126 : decode cX6_init 126 = .ok (.aload_n 0, 1) := by decide +kernel
theorem dX6_init_127 : decode cX6_init 127 = .ok (.bipush 40, 2) := by decide +kernel
theorem dX6_init_129 : decode cX6_init 129 = .ok (.newarray .boolean, 2) := by decide +kernel
theorem dX6_init_131 : decode cX6_init 131 = .ok (.putfield 55, 3) := by decide +kernel
theorem dX6_init_134 : decode cX6_init 134 = .ok (.aload_n 0, 1) := by decide +kernel
theorem dX6_init_135 : decode cX6_init 135 = .ok (.sipush 2560, 3) := by decide +kernel
theorem dX6_init_138 : decode cX6_init 138 = .ok (.newarray .int, 2) := by decide +kernel
theorem dX6_init_140 : decode cX6_init 140 = .ok (.putfield 59, 3) := by decide +kernel
theorem dX6_init_143 : decode cX6_init 143 = .ok (.aload_n 0, 1) := by decide +kernel
theorem dX6_init_144 : decode cX6_init 144 = .ok (.bipush 40, 2) := by decide +kernel
theorem dX6_init_146 : decode cX6_init 146 = .ok (.newarray .int, 2) := by decide +kernel
theorem dX6_init_148 : decode cX6_init 148 = .ok (.putfield 62, 3) := by decide +kernel
theorem dX6_init_151 : decode cX6_init 151 = .ok (.aload_n 0, 1) := by decide +kernel
theorem dX6_init_152 : decode cX6_init 152 = .ok (.bipush 40, 2) := by decide +kernel
theorem dX6_init_154 : decode cX6_init 154 = .ok (.newarray .int, 2) := by decide +kernel
theorem dX6_init_156 : decode cX6_init 156 = .ok (.putfield 65, 3) := by decide +kernel
theorem dX6_init_159 : decode cX6_init 159 = .ok (.aload_n 0, 1) := by decide +kernel
theorem dX6_init_160 : decode cX6_init 160 = .ok (.bipush 40, 2) := by decide +kernel
theorem dX6_init_162 : decode cX6_init 162 = .ok (.newarray .int, 2) := by decide +kernel
theorem dX6_init_164 : decode cX6_init 164 = .ok (.putfield 68, 3) := by decide +kernel
theorem dX6_init_167 : decode cX6_init 167 = .ok (.aload_n 0, 1) := by decide +kernel
theorem dX6_init_168 : decode cX6_init 168 = .ok (.bipush 40, 2) := by decide +kernel
theorem dX6_init_170 : decode cX6_init 170 = .ok (.newarray .int, 2) := by decide +kernel
theorem dX6_init_172 : decode cX6_init 172 = .ok (.putfield 71, 3) := by decide +kernel
theorem dX6_init_175 : decode cX6_init 175 = .ok (.aload_n 0, 1) := by decide +kernel
theorem dX6_init_176 : decode cX6_init 176 = .ok (.bipush 40, 2) := by decide +kernel
theorem dX6_init_178 : decode cX6_init 178 = .ok (.newarray .boolean, 2) := by decide +kernel
theorem dX6_init_180 : decode cX6_init 180 = .ok (.putfield 74, 3) := by decide +kernel
theorem dX6_init_183 : decode cX6_init 183 = .ok (.aload_n 0, 1) := by decide +kernel
theorem dX6_init_184 : decode cX6_init 184 = .ok (.bipush 40, 2) := by decide +kernel
theorem dX6_init_186 : decode cX6_init 186 = .ok (.newarray .int, 2) := by decide +kernel
theorem dX6_init_188 : decode cX6_init 188 = .ok (.putfield 77, 3) := by decide +kernel
theorem dX6_init_191 : decode cX6_init 191 = .ok (.aload_n 0, 1) := by decide +kernel
theorem dX6_init_192 : decode cX6_init 192 = .ok (.bipush 16, 2) := by decide +kernel
theorem dX6_init_194 : decode cX6_init 194 = .ok (.newarray .int, 2) := by decide +kernel
theorem dX6_init_196 : decode cX6_init 196 = .ok (.putfield 80, 3) := by decide +kernel
theorem dX6_init_199 : decode cX6_init 199 = .ok (.aload_n 0, 1) := by decide +kernel
theorem dX6_init_200 : decode cX6_init 200 = .ok (.bipush 16, 2) := by decide +kernel
theorem dX6_init_202 : decode cX6_init 202 = .ok (.newarray .int, 2) := by decide +kernel
theorem dX6_init_204 : decode cX6_init 204 = .ok (.putfield 83, 3) := by decide +kernel
theorem dX6_init_207 : decode cX6_init 207 = .ok (.aload_n 0, 1) := by decide +kernel
theorem dX6_init_208 : decode cX6_init 208 = .ok (.bipush 16, 2) := by decide +kernel
theorem dX6_init_210 : decode cX6_init 210 = .ok (.newarray .int, 2) := by decide +kernel
theorem dX6_init_212 : decode cX6_init 212 = .ok (.putfield 86, 3) := by decide +kernel
theorem dX6_init_215 : decode cX6_init 215 = .ok (.aload_n 0, 1) := by decide +kernel
theorem dX6_init_216 : decode cX6_init 216 = .ok (.bipush 40, 2) := by decide +kernel
theorem dX6_init_218 : decode cX6_init 218 = .ok (.newarray .int, 2) := by decide +kernel
theorem dX6_init_220 : decode cX6_init 220 = .ok (.putfield 89, 3) := by decide +kernel
theorem dX6_init_223 : decode cX6_init 223 = .ok (.aload_n 0, 1) := by decide +kernel
theorem dX6_init_224 : decode cX6_init 224 = .ok (.bipush 40, 2) := by decide +kernel
theorem dX6_init_226 : decode cX6_init 226 = .ok (.newarray .int, 2) := by decide +kernel
theorem dX6_init_228 : decode cX6_init 228 = .ok (.putfield 92, 3) := by decide +kernel
theorem dX6_init_231 : decode cX6_init 231 = .ok (.aload_n 0, 1) := by decide +kernel
theorem dX6_init_232 : decode cX6_init 232 = .ok (.bipush 40, 2) := by decide +kernel
theorem dX6_init_234 : decode cX6_init 234 = .ok (.newarray .int, 2) := by decide +kernel
theorem dX6_init_236 : decode cX6_init 236 = .ok (.putfield 95, 3) := by decide +kernel
theorem dX6_init_239 : decode cX6_init 239 = .ok (.aload_n 0, 1) := by decide +kernel
theorem dX6_init_240 : decode cX6_init 240 = .ok (.iconst 4, 1) := by decide +kernel
theorem dX6_init_241 : decode cX6_init 241 = .ok (.newarray .boolean, 2) := by decide +kernel
theorem dX6_init_243 : decode cX6_init 243 = .ok (.putfield 98, 3) := by decide +kernel
theorem dX6_init_246 : decode cX6_init 246 = .ok (.aload_n 0, 1) := by decide +kernel
theorem dX6_init_247 : decode cX6_init 247 = .ok (.bipush 64, 2) := by decide +kernel
theorem dX6_init_249 : decode cX6_init 249 = .ok (.newarray .int, 2) := by decide +kernel
theorem dX6_init_251 : decode cX6_init 251 = .ok (.putfield 101, 3) := by decide +kernel
theorem dX6_init_254 : decode cX6_init 254 = .ok (.aload_n 0, 1) := by decide +kernel
theorem dX6_init_255 : decode cX6_init 255 = .ok (.bipush 64, 2) := by decide +kernel
theorem dX6_init_257 : decode cX6_init 257 = .ok (.newarray .int, 2) := by decide +kernel
theorem dX6_init_259 : decode cX6_init 259 = .ok (.putfield 104, 3) := by decide +kernel
theorem dX6_init_262 : decode cX6_init 262 = .ok (.aload_n 0, 1) := by decide +kernel
theorem dX6_init_263 : decode cX6_init 263 = .ok (.bipush 64, 2) := by decide +kernel
theorem dX6_init_265 : decode cX6_init 265 = .ok (.newarray .int, 2) := by decide +kernel
theorem dX6_init_267 : decode cX6_init 267 = .ok (.putfield 107, 3) := by decide +kernel
theorem dX6_init_270 : decode cX6_init 270 = .ok (.aload_n 0, 1) := by decide +kernel
theorem dX6_init_271 : decode cX6_init 271 = .ok (.bipush 16, 2) := by decide +kernel
theorem dX6_init_273 : decode cX6_init 273 = .ok (.newarray .boolean, 2) := by decide +kernel
theorem dX6_init_275 : decode cX6_init 275 = .ok (.putfield 110, 3) := by decide +kernel
theorem dX6_init_278 : decode cX6_init 278 = .ok (.aload_n 0, 1) := by decide +kernel
theorem dX6_init_279 : decode cX6_init 279 = .ok (.bipush 40, 2) := by decide +kernel
theorem dX6_init_281 : decode cX6_init 281 = .ok (.newarray .int, 2) := by decide +kernel
theorem dX6_init_283 : decode cX6_init 283 = .ok (.putfield 113, 3) := by decide +kernel
theorem dX6_init_286 : decode cX6_init 286 = .ok (.aload_n 0, 1) := by decide +kernel
theorem dX6_init_287 : decode cX6_init 287 = .ok (.bipush 40, 2) := by decide +kernel
theorem dX6_init_289 : decode cX6_init 289 = .ok (.newarray .int, 2) := by decide +kernel
theorem dX6_init_291 : decode cX6_init 291 = .ok (.putfield 116, 3) := by decide +kernel
theorem dX6_init_294 : decode cX6_init 294 = .ok (.aload_n 0, 1) := by decide +kernel
theorem dX6_init_295 : decode cX6_init 295 = .ok (.bipush 40, 2) := by decide +kernel
theorem dX6_init_297 : decode cX6_init 297 = .ok (.newarray .int, 2) := by decide +kernel
theorem dX6_init_299 : decode cX6_init 299 = .ok (.putfield 119, 3) := by decide +kernel
theorem dX6_init_302 : decode cX6_init 302 = .ok (.aload_n 0, 1) := by decide +kernel
theorem dX6_init_303 : decode cX6_init 303 = .ok (.bipush 16, 2) := by decide +kernel
theorem dX6_init_305 : decode cX6_init 305 = .ok (.newarray .boolean, 2) := by decide +kernel
theorem dX6_init_307 : decode cX6_init 307 = .ok (.putfield 122, 3) := by decide +kernel
theorem dX6_init_310 : decode cX6_init 310 = .ok (.aload_n 0, 1) := by decide +kernel
theorem dX6_init_311 : decode cX6_init 311 = .ok (.bipush 16, 2) := by decide +kernel
theorem dX6_init_313 : decode cX6_init 313 = .ok (.newarray .boolean, 2) := by decide +kernel
theorem dX6_init_315 : decode cX6_init 315 = .ok (.putfield 125, 3) := by decide +kernel
theorem dX6_init_318 : decode cX6_init 318 = .ok (.aload_n 0, 1) := by decide +kernel
theorem dX6_init_319 : decode cX6_init 319 = .ok (.invokevirtual 128, 3) := by decide +kernel
theorem dX6_init_322 : decode cX6_init 322 = .ok (.return_, 1) := by decide +kernel
theorem dX6_in_0 : decode cX6_in 0 = .ok (.iload_n 0, 1) := by decide +kernel
theorem dX6_in_1 : decode cX6_in 1 = .ok (.iload_n 1, 1) := by decide +kernel
theorem dX6_in_2 : decode cX6_in 2 = .ok (.if_icmp .lt 12, 3) := by decide +kernel
theorem dX6_in_5 : decode cX6_in 5 = .ok (.iload_n 0, 1) := by decide +kernel
theorem dX6_in_6 : decode cX6_in 6 = .ok (.iload_n 2, 1) := by decide +kernel
theorem dX6_in_7 : decode cX6_in 7 = .ok (.if_icmp .gt 7, 3) := by decide +kernel
theorem dX6_in_10 : decode cX6_in 10 = .ok (.iconst 1, 1) := by decide +kernel
theorem dX6_in_11 : decode cX6_in 11 = .ok (.goto 4, 3) := by decide +kernel
theorem dX6_in_14 : decode cX6_in 14 = .ok (.iconst 0, 1) := by decide +kernel
theorem dX6_in_15 : decode cX6_in 15 = .ok (.ireturn, 1) := by decide +kernel
theorem dX6_begin_0 : decode cX6_begin 0 = .ok (.aload_n 0, 1) := by decide +kernel
theorem dX6_begin_1 : decode cX6_begin 1 = .ok (.iconst 0, 1) := by decide +kernel
theorem dX6_begin_2 : decode cX6_begin 2 = .ok (.putfield 131, 3) := by decide +kernel
theorem dX6_begin_5 : decode cX6_begin 5 = .ok (.aload_n 0, 1) := by decide +kernel
theorem dX6_begin_6 : decode cX6_begin 6 = .ok (.iconst 0, 1) := by decide +kernel
theorem dX6_begin_7 : decode cX6_begin 7 = .ok (.putfield 135, 3) := by decide +kernel
theorem dX6_begin_10 : decode cX6_begin 10 = .ok (.iconst 0, 1) := by decide +kernel
theorem dX6_begin_11 : decode cX6_begin 11 = .ok (.istore_n 1, 1) := by decide +kernel
theorem dX6_begin_12 : decode cX6_begin 12 = .ok (.iload_n 1, 1) := by decide +kernel
theorem dX6_begin_13 : decode cX6_begin 13 = .ok (.iconst 4, 1) := by decide +kernel
theorem dX6_begin_14 : decode cX6_begin 14 = .ok (.if_icmp .ge 16, 3) := by decide +kernel
theorem dX6_begin_17 : decode cX6_begin 17 = .ok (.aload_n 0, 1) := by decide +kernel
theorem dX6_begin_18 : decode cX6_begin 18 = .ok (.getfield 98, 3) := by decide +kernel
theorem dX6_begin_21 : decode cX6_begin 21 = .ok (.iload_n 1, 1) := by decide +kernel
theorem dX6_begin_22 : decode cX6_begin 22 = .ok (.iconst 0, 1) := by decide +kernel
theorem dX6_begin_23 : decode cX6_begin 23 = .ok (.bastore, 1) := by decide +kernel
theorem dX6_begin_24 : decode cX6_begin 24 = .ok (.iinc 1 1, 3) := by decide +kernel
theorem dX6_begin_27 : decode cX6_begin 27 = .ok (.goto (-15), 3) := by decide +kernel
theorem dX6_begin_30 : decode cX6_begin 30 = .ok (.aload_n 0, 1) := by decide +kernel
theorem dX6_begin_31 : decode cX6_begin 31 = .ok (.iconst 3, 1) := by decide +kernel
theorem dX6_begin_32 : decode cX6_begin 32 = .ok (.putfield 138, 3) := by decide +kernel
theorem dX6_begin_35 : decode cX6_begin 35 = .ok (.aload_n 0, 1) := by decide +kernel
theorem dX6_begin_36 : decode cX6_begin 36 = .ok (.iconst 0, 1) := by decide +kernel
theorem dX6_begin_37 : decode cX6_begin 37 = .ok (.putfield 141, 3) := by decide +kernel
theorem dX6_begin_40 : decode cX6_begin 40 = .ok (.aload_n 0, 1) := by decide +kernel
theorem dX6_begin_41 : decode cX6_begin 41 = .ok (.iconst 1, 1) := by decide +kernel
theorem dX6_begin_42 : decode cX6_begin 42 = .ok (.putfield 145, 3) := by decide +kernel
theorem dX6_begin_45 : decode cX6_begin 45 = .ok (.aload_n 0, 1) := by decide +kernel
theorem dX6_begin_46 : decode cX6_begin 46 = .ok (.iconst 0, 1) := by decide +kernel
theorem dX6_begin_47 : decode cX6_begin 47 = .ok (.putfield 148, 3) := by decide +kernel
theorem dX6_begin_50 : decode cX6_begin 50 = .ok (.aload_n 0, 1) := by decide +kernel
theorem dX6_begin_51 : decode cX6_begin 51 = .ok (.iconst 0, 1) := by decide +kernel
theorem dX6_begin_52 : decode cX6_begin 52 = .ok (.putfield 151, 3) := by decide +kernel
theorem dX6_begin_55 : decode cX6_begin 55 = .ok (.aload_n 0, 1) := by decide +kernel
theorem dX6_begin_56 : decode cX6_begin 56 = .ok (.iconst 0, 1) := by decide +kernel
theorem dX6_begin_57 : decode cX6_begin 57 = .ok (.putfield 154, 3) := by decide +kernel
theorem dX6_begin_60 : decode cX6_begin 60 = .ok (.aload_n 0, 1) := by decide +kernel
theorem dX6_begin_61 : decode cX6_begin 61 = .ok (.iconst 0, 1) := by decide +kernel
theorem dX6_begin_62 : decode cX6_begin 62 = .ok (.putfield 157, 3) := by decide +kernel
theorem dX6_begin_65 : decode cX6_begin 65 = .ok (.aload_n 0, 1) := by decide +kernel
theorem dX6_begin_66 : decode cX6_begin 66 = .ok (.iconst 0, 1) := by decide +kernel
theorem dX6_begin_67 : decode cX6_begin 67 = .ok (.putfield 160, 3) := by decide +kernel
theorem dX6_begin_70 : decode cX6_begin 70 = .ok (.aload_n 0, 1) := by decide +kernel
theorem dX6_begin_71 : decode cX6_begin 71 = .ok (.iconst 0, 1) := by decide +kernel
theorem dX6_begin_72 : decode cX6_begin 72 = .ok (.putfield 163, 3) := by decide +kernel
theorem dX6_begin_75 : decode cX6_begin 75 = .ok (.aload_n 0, 1) := by decide +kernel
theorem dX6_begin_76 : decode cX6_begin 76 = .ok (.iconst 0, 1) := by decide +kernel
theorem dX6_begin_77 : decode cX6_begin 77 = .ok (.putfield 166, 3) := by decide +kernel
theorem dX6_begin_80 : decode cX6_begin 80 = .ok (.return_, 1) := by decide +kernel
theorem dX6_noTask_0 : decode cX6_noTask 0 = .ok (.iload_n 1, 1) := by decide +kernel
theorem dX6_noTask_1 : decode cX6_noTask 1 = .ok (.iconst 0, 1) := by decide +kernel
theorem dX6_noTask_2 : decode cX6_noTask 2 = .ok (.aload_n 0, 1) := by decide +kernel
theorem dX6_noTask_3 : decode cX6_noTask 3 = .ok (.getfield 131, 3) := by decide +kernel
theorem dX6_noTask_6 : decode cX6_noTask 6 = .ok (.iconst 1, 1) := by decide +kernel
theorem dX6_noTask_7 : decode cX6_noTask 7 = .ok (.isub, 1) := by decide +kernel
theorem dX6_noTask_8 : decode cX6_noTask 8 = .ok (.invokestatic 169, 3) := by decide +kernel
theorem dX6_noTask_11 : decode cX6_noTask 11 = .ok (.ifCond .ne 7, 3) := by decide +kernel
theorem dX6_noTask_14 : decode cX6_noTask 14 = .ok (.iconst 1, 1) := by decide +kernel
theorem dX6_noTask_15 : decode cX6_noTask 15 = .ok (.goto 4, 3) := by decide +kernel
theorem dX6_noTask_18 : decode cX6_noTask 18 = .ok (.iconst 0, 1) := by decide +kernel
theorem dX6_noTask_19 : decode cX6_noTask 19 = .ok (.ireturn, 1) := by decide +kernel
theorem dX6_noChannel_0 : decode cX6_noChannel 0 = .ok (.iload_n 1, 1) := by decide +kernel
theorem dX6_noChannel_1 : decode cX6_noChannel 1 = .ok (.iconst 0, 1) := by decide +kernel
theorem dX6_noChannel_2 : decode cX6_noChannel 2 = .ok (.aload_n 0, 1) := by decide +kernel
theorem dX6_noChannel_3 : decode cX6_noChannel 3 = .ok (.getfield 135, 3) := by decide +kernel
theorem dX6_noChannel_6 : decode cX6_noChannel 6 = .ok (.iconst 1, 1) := by decide +kernel
theorem dX6_noChannel_7 : decode cX6_noChannel 7 = .ok (.isub, 1) := by decide +kernel
theorem dX6_noChannel_8 : decode cX6_noChannel 8 = .ok (.invokestatic 169, 3) := by decide +kernel
theorem dX6_noChannel_11 : decode cX6_noChannel 11 = .ok (.ifCond .ne 7, 3) := by decide +kernel
theorem dX6_noChannel_14 : decode cX6_noChannel 14 = .ok (.iconst 1, 1) := by decide +kernel
theorem dX6_noChannel_15 : decode cX6_noChannel 15 = .ok (.goto 4, 3) := by decide +kernel
theorem dX6_noChannel_18 : decode cX6_noChannel 18 = .ok (.iconst 0, 1) := by decide +kernel
theorem dX6_noChannel_19 : decode cX6_noChannel 19 = .ok (.ireturn, 1) := by decide +kernel
theorem dX6_noNode_0 : decode cX6_noNode 0 = .ok (.iload_n 1, 1) := by decide +kernel
theorem dX6_noNode_1 : decode cX6_noNode 1 = .ok (.iconst 0, 1) := by decide +kernel
theorem dX6_noNode_2 : decode cX6_noNode 2 = .ok (.iconst 3, 1) := by decide +kernel
theorem dX6_noNode_3 : decode cX6_noNode 3 = .ok (.invokestatic 169, 3) := by decide +kernel
theorem dX6_noNode_6 : decode cX6_noNode 6 = .ok (.ifCond .ne 7, 3) := by decide +kernel
theorem dX6_noNode_9 : decode cX6_noNode 9 = .ok (.iconst 1, 1) := by decide +kernel
theorem dX6_noNode_10 : decode cX6_noNode 10 = .ok (.goto 4, 3) := by decide +kernel
theorem dX6_noNode_13 : decode cX6_noNode 13 = .ok (.iconst 0, 1) := by decide +kernel
theorem dX6_noNode_14 : decode cX6_noNode 14 = .ok (.ireturn, 1) := by decide +kernel
theorem dX6_task_0 : decode cX6_task 0 = .ok (.aload_n 0, 1) := by decide +kernel
theorem dX6_task_1 : decode cX6_task 1 = .ok (.iload_n 3, 1) := by decide +kernel
theorem dX6_task_2 : decode cX6_task 2 = .ok (.invokevirtual 173, 3) := by decide +kernel
theorem dX6_task_5 : decode cX6_task 5 = .ok (.ifCond .ne 12, 3) := by decide +kernel
theorem dX6_task_8 : decode cX6_task 8 = .ok (.aload_n 0, 1) := by decide +kernel
theorem dX6_task_9 : decode cX6_task 9 = .ok (.getfield 98, 3) := by decide +kernel
theorem dX6_task_12 : decode cX6_task 12 = .ok (.iload_n 3, 1) := by decide +kernel
theorem dX6_task_13 : decode cX6_task 13 = .ok (.baload, 1) := by decide +kernel
theorem dX6_task_14 : decode cX6_task 14 = .ok (.ifCond .eq 5, 3) := by decide +kernel
theorem dX6_task_17 : decode cX6_task 17 = .ok (.iconst (-1), 1) := by decide +kernel
theorem dX6_task_18 : decode cX6_task 18 = .ok (.ireturn, 1) := by decide +kernel
theorem dX6_task_19 : decode cX6_task 19 = .ok (.iload_n 1, 1) := by decide +kernel
theorem dX6_task_20 : decode cX6_task 20 = .ok (.iconst 0, 1) := by decide +kernel
theorem dX6_task_21 : decode cX6_task 21 = .ok (.iconst 5, 1) := by decide +kernel
theorem dX6_task_22 : decode cX6_task 22 = .ok (.invokestatic 169, 3) := by decide +kernel
theorem dX6_task_25 : decode cX6_task 25 = .ok (.istore 4, 2) := by decide +kernel
theorem dX6_task_27 : decode cX6_task 27 = .ok (.iload 4, 2) := by decide +kernel
theorem dX6_task_29 : decode cX6_task 29 = .ok (.ifCond .eq 51, 3) := by decide +kernel
theorem dX6_task_32 : decode cX6_task 32 = .ok (.iload_n 1, 1) := by decide +kernel
theorem dX6_task_33 : decode cX6_task 33 = .ok (.ifCond .ne 13, 3) := by decide +kernel
theorem dX6_task_36 : decode cX6_task 36 = .ok (.iload_n 2, 1) := by decide +kernel
theorem dX6_task_37 : decode cX6_task 37 = .ok (.iconst 0, 1) := by decide +kernel
theorem dX6_task_38 : decode cX6_task 38 = .ok (.bipush 20, 2) := by decide +kernel
theorem dX6_task_40 : decode cX6_task 40 = .ok (.invokestatic 169, 3) := by decide +kernel
theorem dX6_task_43 : decode cX6_task 43 = .ok (.ifCond .eq 37, 3) := by decide +kernel
theorem dX6_task_46 : decode cX6_task 46 = .ok (.iload_n 1, 1) := by decide +kernel
theorem dX6_task_47 : decode cX6_task 47 = .ok (.iconst 1, 1) := by decide +kernel
theorem dX6_task_48 : decode cX6_task 48 = .ok (.if_icmp .ne 14, 3) := by decide +kernel
theorem dX6_task_51 : decode cX6_task 51 = .ok (.iload_n 2, 1) := by decide +kernel
theorem dX6_task_52 : decode cX6_task 52 = .ok (.bipush (-20), 2) := by decide +kernel
theorem dX6_task_54 : decode cX6_task 54 = .ok (.bipush 20, 2) := by decide +kernel
theorem dX6_task_56 : decode cX6_task 56 = .ok (.invokestatic 169, 3) := by decide +kernel
theorem dX6_task_59 : decode cX6_task 59 = .ok (.ifCond .eq 21, 3) := by decide +kernel
theorem dX6_task_62 : decode cX6_task 62 = .ok (.iload_n 1, 1) := by decide +kernel
theorem dX6_task_63 : decode cX6_task 63 = .ok (.iconst 2, 1) := by decide +kernel
theorem dX6_task_64 : decode cX6_task 64 = .ok (.if_icmp .ne 12, 3) := by decide +kernel
theorem dX6_task_67 : decode cX6_task 67 = .ok (.iload_n 2, 1) := by decide +kernel
theorem dX6_task_68 : decode cX6_task 68 = .ok (.iconst 1, 1) := by decide +kernel
theorem dX6_task_69 : decode cX6_task 69 = .ok (.iconst 5, 1) := by decide +kernel
theorem dX6_task_70 : decode cX6_task 70 = .ok (.invokestatic 169, 3) := by decide +kernel
theorem dX6_task_73 : decode cX6_task 73 = .ok (.ifCond .eq 7, 3) := by decide +kernel
theorem dX6_task_76 : decode cX6_task 76 = .ok (.iconst 1, 1) := by decide +kernel
theorem dX6_task_77 : decode cX6_task 77 = .ok (.goto 4, 3) := by decide +kernel
theorem dX6_task_80 : decode cX6_task 80 = .ok (.iconst 0, 1) := by decide +kernel
theorem dX6_task_81 : decode cX6_task 81 = .ok (.istore 4, 2) := by decide +kernel
theorem dX6_task_83 : decode cX6_task 83 = .ok (.iload 4, 2) := by decide +kernel
theorem dX6_task_85 : decode cX6_task 85 = .ok (.ifCond .ne 6, 3) := by decide +kernel
theorem dX6_task_88 : decode cX6_task 88 = .ok (.bipush (-2), 2) := by decide +kernel
theorem dX6_task_90 : decode cX6_task 90 = .ok (.ireturn, 1) := by decide +kernel
theorem dX6_task_91 : decode cX6_task 91 = .ok (.aload_n 0, 1) := by decide +kernel
theorem dX6_task_92 : decode cX6_task 92 = .ok (.getfield 154, 3) := by decide +kernel
theorem dX6_task_95 : decode cX6_task 95 = .ok (.ifCond .eq 6, 3) := by decide +kernel
theorem dX6_task_98 : decode cX6_task 98 = .ok (.bipush (-3), 2) := by decide +kernel
theorem dX6_task_100 : decode cX6_task 100 = .ok (.ireturn, 1) := by decide +kernel
theorem dX6_task_101 : decode cX6_task 101 = .ok (.aload_n 0, 1) := by decide +kernel
theorem dX6_task_102 : decode cX6_task 102 = .ok (.getfield 131, 3) := by decide +kernel
theorem dX6_task_105 : decode cX6_task 105 = .ok (.bipush 16, 2) := by decide +kernel
theorem dX6_task_107 : decode cX6_task 107 = .ok (.if_icmp .ne 6, 3) := by decide +kernel
theorem dX6_task_110 : decode cX6_task 110 = .ok (.bipush (-4), 2) := by decide +kernel
theorem dX6_task_112 : decode cX6_task 112 = .ok (.ireturn, 1) := by decide +kernel
theorem dX6_task_113 : decode cX6_task 113 = .ok (.aload_n 0, 1) := by decide +kernel
theorem dX6_task_114 : decode cX6_task 114 = .ok (.getfield 131, 3) := by decide +kernel
theorem dX6_task_117 : decode cX6_task 117 = .ok (.istore 5, 2) := by decide +kernel
theorem dX6_task_119 : decode cX6_task 119 = .ok (.aload_n 0, 1) := by decide +kernel
theorem dX6_task_120 : decode cX6_task 120 = .ok (.getfield 7, 3) := by decide +kernel
theorem dX6_task_123 : decode cX6_task 123 = .ok (.iload 5, 2) := by decide +kernel
theorem dX6_task_125 : decode cX6_task 125 = .ok (.iload_n 1, 1) := by decide +kernel
theorem dX6_task_126 : decode cX6_task 126 = .ok (.iastore, 1) := by decide +kernel
theorem dX6_task_127 : decode cX6_task 127 = .ok (.aload_n 0, 1) := by decide +kernel
theorem dX6_task_128 : decode cX6_task 128 = .ok (.getfield 13, 3) := by decide +kernel
theorem dX6_task_131 : decode cX6_task 131 = .ok (.iload 5, 2) := by decide +kernel
theorem dX6_task_133 : decode cX6_task 133 = .ok (.iload_n 2, 1) := by decide +kernel
theorem dX6_task_134 : decode cX6_task 134 = .ok (.iastore, 1) := by decide +kernel
theorem dX6_task_135 : decode cX6_task 135 = .ok (.aload_n 0, 1) := by decide +kernel
theorem dX6_task_136 : decode cX6_task 136 = .ok (.getfield 16, 3) := by decide +kernel
theorem dX6_task_139 : decode cX6_task 139 = .ok (.iload 5, 2) := by decide +kernel
theorem dX6_task_141 : decode cX6_task 141 = .ok (.iload_n 3, 1) := by decide +kernel
theorem dX6_task_142 : decode cX6_task 142 = .ok (.iastore, 1) := by decide +kernel
theorem dX6_task_143 : decode cX6_task 143 = .ok (.aload_n 0, 1) := by decide +kernel
theorem dX6_task_144 : decode cX6_task 144 = .ok (.getfield 19, 3) := by decide +kernel
theorem dX6_task_147 : decode cX6_task 147 = .ok (.iload 5, 2) := by decide +kernel
theorem dX6_task_149 : decode cX6_task 149 = .ok (.iconst 0, 1) := by decide +kernel
theorem dX6_task_150 : decode cX6_task 150 = .ok (.iastore, 1) := by decide +kernel
theorem dX6_task_151 : decode cX6_task 151 = .ok (.aload_n 0, 1) := by decide +kernel
theorem dX6_task_152 : decode cX6_task 152 = .ok (.getfield 22, 3) := by decide +kernel
theorem dX6_task_155 : decode cX6_task 155 = .ok (.iload 5, 2) := by decide +kernel
theorem dX6_task_157 : decode cX6_task 157 = .ok (.iconst 0, 1) := by decide +kernel
theorem dX6_task_158 : decode cX6_task 158 = .ok (.iastore, 1) := by decide +kernel
theorem dX6_task_159 : decode cX6_task 159 = .ok (.aload_n 0, 1) := by decide +kernel
theorem dX6_task_160 : decode cX6_task 160 = .ok (.getfield 25, 3) := by decide +kernel
theorem dX6_task_163 : decode cX6_task 163 = .ok (.iload 5, 2) := by decide +kernel
theorem dX6_task_165 : decode cX6_task 165 = .ok (.iconst 0, 1) := by decide +kernel
theorem dX6_task_166 : decode cX6_task 166 = .ok (.iastore, 1) := by decide +kernel
theorem dX6_task_167 : decode cX6_task 167 = .ok (.aload_n 0, 1) := by decide +kernel
theorem dX6_task_168 : decode cX6_task 168 = .ok (.getfield 31, 3) := by decide +kernel
theorem dX6_task_171 : decode cX6_task 171 = .ok (.iload 5, 2) := by decide +kernel
theorem dX6_task_173 : decode cX6_task 173 = .ok (.sipush 1001, 3) := by decide +kernel
theorem dX6_task_176 : decode cX6_task 176 = .ok (.iastore, 1) := by decide +kernel
theorem dX6_task_177 : decode cX6_task 177 = .ok (.aload_n 0, 1) := by decide +kernel
theorem dX6_task_178 : decode cX6_task 178 = .ok (.getfield 34, 3) := by decide +kernel
theorem dX6_task_181 : decode cX6_task 181 = .ok (.iload 5, 2) := by decide +kernel
theorem dX6_task_183 : decode cX6_task 183 = .ok (.bipush 8, 2) := by decide +kernel
theorem dX6_task_185 : decode cX6_task 185 = .ok (.iastore, 1) := by decide +kernel
theorem dX6_task_186 : decode cX6_task 186 = .ok (.aload_n 0, 1) := by decide +kernel
theorem dX6_task_187 : decode cX6_task 187 = .ok (.getfield 37, 3) := by decide +kernel
theorem dX6_task_190 : decode cX6_task 190 = .ok (.iload 5, 2) := by decide +kernel
theorem dX6_task_192 : decode cX6_task 192 = .ok (.iconst 0, 1) := by decide +kernel
theorem dX6_task_193 : decode cX6_task 193 = .ok (.iastore, 1) := by decide +kernel
theorem dX6_task_194 : decode cX6_task 194 = .ok (.aload_n 0, 1) := by decide +kernel
theorem dX6_task_195 : decode cX6_task 195 = .ok (.getfield 40, 3) := by decide +kernel
theorem dX6_task_198 : decode cX6_task 198 = .ok (.iload 5, 2) := by decide +kernel
theorem dX6_task_200 : decode cX6_task 200 = .ok (.iconst 0, 1) := by decide +kernel
theorem dX6_task_201 : decode cX6_task 201 = .ok (.iastore, 1) := by decide +kernel
theorem dX6_task_202 : decode cX6_task 202 = .ok (.aload_n 0, 1) := by decide +kernel
theorem dX6_task_203 : decode cX6_task 203 = .ok (.getfield 43, 3) := by decide +kernel
theorem dX6_task_206 : decode cX6_task 206 = .ok (.iload 5, 2) := by decide +kernel
theorem dX6_task_208 : decode cX6_task 208 = .ok (.iconst 0, 1) := by decide +kernel
theorem dX6_task_209 : decode cX6_task 209 = .ok (.iastore, 1) := by decide +kernel
theorem dX6_task_210 : decode cX6_task 210 = .ok (.aload_n 0, 1) := by decide +kernel
theorem dX6_task_211 : decode cX6_task 211 = .ok (.getfield 80, 3) := by decide +kernel
theorem dX6_task_214 : decode cX6_task 214 = .ok (.iload 5, 2) := by decide +kernel
theorem dX6_task_216 : decode cX6_task 216 = .ok (.iconst 0, 1) := by decide +kernel
theorem dX6_task_217 : decode cX6_task 217 = .ok (.iastore, 1) := by decide +kernel
theorem dX6_task_218 : decode cX6_task 218 = .ok (.aload_n 0, 1) := by decide +kernel
theorem dX6_task_219 : decode cX6_task 219 = .ok (.getfield 83, 3) := by decide +kernel
theorem dX6_task_222 : decode cX6_task 222 = .ok (.iload 5, 2) := by decide +kernel
theorem dX6_task_224 : decode cX6_task 224 = .ok (.iconst 0, 1) := by decide +kernel
theorem dX6_task_225 : decode cX6_task 225 = .ok (.iastore, 1) := by decide +kernel
theorem dX6_task_226 : decode cX6_task 226 = .ok (.aload_n 0, 1) := by decide +kernel
theorem dX6_task_227 : decode cX6_task 227 = .ok (.getfield 86, 3) := by decide +kernel
theorem dX6_task_230 : decode cX6_task 230 = .ok (.iload 5, 2) := by decide +kernel
theorem dX6_task_232 : decode cX6_task 232 = .ok (.iconst 0, 1) := by decide +kernel
theorem dX6_task_233 : decode cX6_task 233 = .ok (.iastore, 1) := by decide +kernel
theorem dX6_task_234 : decode cX6_task 234 = .ok (.aload_n 0, 1) := by decide +kernel
theorem dX6_task_235 : decode cX6_task 235 = .ok (.dup, 1) := by decide +kernel
theorem dX6_task_236 : decode cX6_task 236 = .ok (.getfield 131, 3) := by decide +kernel
theorem dX6_task_239 : decode cX6_task 239 = .ok (.iconst 1, 1) := by decide +kernel
theorem dX6_task_240 : decode cX6_task 240 = .ok (.iadd, 1) := by decide +kernel
theorem dX6_task_241 : decode cX6_task 241 = .ok (.putfield 131, 3) := by decide +kernel
theorem dX6_task_244 : decode cX6_task 244 = .ok (.iload 5, 2) := by decide +kernel
theorem dX6_task_246 : decode cX6_task 246 = .ok (.ireturn, 1) := by decide +kernel
theorem dX6_channel_0 : decode cX6_channel 0 = .ok (.aload_n 0, 1) := by decide +kernel
theorem dX6_channel_1 : decode cX6_channel 1 = .ok (.iload_n 1, 1) := by decide +kernel
theorem dX6_channel_2 : decode cX6_channel 2 = .ok (.invokevirtual 177, 3) := by decide +kernel
theorem dX6_channel_5 : decode cX6_channel 5 = .ok (.ifCond .ne 11, 3) := by decide +kernel
theorem dX6_channel_8 : decode cX6_channel 8 = .ok (.aload_n 0, 1) := by decide +kernel
theorem dX6_channel_9 : decode cX6_channel 9 = .ok (.iload_n 2, 1) := by decide +kernel
theorem dX6_channel_10 : decode cX6_channel 10 = .ok (.invokevirtual 177, 3) := by decide +kernel
theorem dX6_channel_13 : decode cX6_channel 13 = .ok (.ifCond .eq 5, 3) := by decide +kernel
theorem dX6_channel_16 : decode cX6_channel 16 = .ok (.iconst (-1), 1) := by decide +kernel
theorem dX6_channel_17 : decode cX6_channel 17 = .ok (.ireturn, 1) := by decide +kernel
theorem dX6_channel_18 : decode cX6_channel 18 = .ok (.iload_n 1, 1) := by decide +kernel
theorem dX6_channel_19 : decode cX6_channel 19 = .ok (.iload_n 2, 1) := by decide +kernel
theorem dX6_channel_20 : decode cX6_channel 20 = .ok (.if_icmp .ge 22, 3) := by decide +kernel
theorem dX6_channel_23 : decode cX6_channel 23 = .ok (.aload_n 0, 1) := by decide +kernel
theorem dX6_channel_24 : decode cX6_channel 24 = .ok (.getfield 7, 3) := by decide +kernel
theorem dX6_channel_27 : decode cX6_channel 27 = .ok (.iload_n 1, 1) := by decide +kernel
theorem dX6_channel_28 : decode cX6_channel 28 = .ok (.iaload, 1) := by decide +kernel
theorem dX6_channel_29 : decode cX6_channel 29 = .ok (.iconst 5, 1) := by decide +kernel
theorem dX6_channel_30 : decode cX6_channel 30 = .ok (.if_icmp .eq 12, 3) := by decide +kernel
theorem dX6_channel_33 : decode cX6_channel 33 = .ok (.aload_n 0, 1) := by decide +kernel
theorem dX6_channel_34 : decode cX6_channel 34 = .ok (.getfield 7, 3) := by decide +kernel
theorem dX6_channel_37 : decode cX6_channel 37 = .ok (.iload_n 2, 1) := by decide +kernel
theorem dX6_channel_38 : decode cX6_channel 38 = .ok (.iaload, 1) := by decide +kernel
theorem dX6_channel_39 : decode cX6_channel 39 = .ok (.ifCond .ne 6, 3) := by decide +kernel
theorem dX6_channel_42 : decode cX6_channel 42 = .ok (.bipush (-2), 2) := by decide +kernel
theorem dX6_channel_44 : decode cX6_channel 44 = .ok (.ireturn, 1) := by decide +kernel
theorem dX6_channel_45 : decode cX6_channel 45 = .ok (.aload_n 0, 1) := by decide +kernel
theorem dX6_channel_46 : decode cX6_channel 46 = .ok (.getfield 154, 3) := by decide +kernel
theorem dX6_channel_49 : decode cX6_channel 49 = .ok (.ifCond .eq 6, 3) := by decide +kernel
theorem dX6_channel_52 : decode cX6_channel 52 = .ok (.bipush (-3), 2) := by decide +kernel
theorem dX6_channel_54 : decode cX6_channel 54 = .ok (.ireturn, 1) := by decide +kernel
theorem dX6_channel_55 : decode cX6_channel 55 = .ok (.aload_n 0, 1) := by decide +kernel
theorem dX6_channel_56 : decode cX6_channel 56 = .ok (.getfield 135, 3) := by decide +kernel
theorem dX6_channel_59 : decode cX6_channel 59 = .ok (.bipush 40, 2) := by decide +kernel
theorem dX6_channel_61 : decode cX6_channel 61 = .ok (.if_icmp .ne 6, 3) := by decide +kernel
theorem dX6_channel_64 : decode cX6_channel 64 = .ok (.bipush (-4), 2) := by decide +kernel
theorem dX6_channel_66 : decode cX6_channel 66 = .ok (.ireturn, 1) := by decide +kernel
theorem dX6_channel_67 : decode cX6_channel 67 = .ok (.aload_n 0, 1) := by decide +kernel
theorem dX6_channel_68 : decode cX6_channel 68 = .ok (.getfield 135, 3) := by decide +kernel
theorem dX6_channel_71 : decode cX6_channel 71 = .ok (.istore 4, 2) := by decide +kernel
theorem dX6_channel_73 : decode cX6_channel 73 = .ok (.aload_n 0, 1) := by decide +kernel
theorem dX6_channel_74 : decode cX6_channel 74 = .ok (.getfield 49, 3) := by decide +kernel
theorem dX6_channel_77 : decode cX6_channel 77 = .ok (.iload 4, 2) := by decide +kernel
theorem dX6_channel_79 : decode cX6_channel 79 = .ok (.iload_n 1, 1) := by decide +kernel
theorem dX6_channel_80 : decode cX6_channel 80 = .ok (.iastore, 1) := by decide +kernel
theorem dX6_channel_81 : decode cX6_channel 81 = .ok (.aload_n 0, 1) := by decide +kernel
theorem dX6_channel_82 : decode cX6_channel 82 = .ok (.getfield 52, 3) := by decide +kernel
theorem dX6_channel_85 : decode cX6_channel 85 = .ok (.iload 4, 2) := by decide +kernel
theorem dX6_channel_87 : decode cX6_channel 87 = .ok (.iload_n 2, 1) := by decide +kernel
theorem dX6_channel_88 : decode cX6_channel 88 = .ok (.iastore, 1) := by decide +kernel
theorem dX6_channel_89 : decode cX6_channel 89 = .ok (.aload_n 0, 1) := by decide +kernel
theorem dX6_channel_90 : decode cX6_channel 90 = .ok (.getfield 55, 3) := by decide +kernel
theorem dX6_channel_93 : decode cX6_channel 93 = .ok (.iload 4, 2) := by decide +kernel
theorem dX6_channel_95 : decode cX6_channel 95 = .ok (.iload_n 3, 1) := by decide +kernel
theorem dX6_channel_96 : decode cX6_channel 96 = .ok (.bastore, 1) := by decide +kernel
theorem dX6_channel_97 : decode cX6_channel 97 = .ok (.aload_n 0, 1) := by decide +kernel
theorem dX6_channel_98 : decode cX6_channel 98 = .ok (.getfield 62, 3) := by decide +kernel
theorem dX6_channel_101 : decode cX6_channel 101 = .ok (.iload 4, 2) := by decide +kernel
theorem dX6_channel_103 : decode cX6_channel 103 = .ok (.iconst 0, 1) := by decide +kernel
theorem dX6_channel_104 : decode cX6_channel 104 = .ok (.iastore, 1) := by decide +kernel
theorem dX6_channel_105 : decode cX6_channel 105 = .ok (.aload_n 0, 1) := by decide +kernel
theorem dX6_channel_106 : decode cX6_channel 106 = .ok (.getfield 65, 3) := by decide +kernel
theorem dX6_channel_109 : decode cX6_channel 109 = .ok (.iload 4, 2) := by decide +kernel
theorem dX6_channel_111 : decode cX6_channel 111 = .ok (.iconst 0, 1) := by decide +kernel
theorem dX6_channel_112 : decode cX6_channel 112 = .ok (.iastore, 1) := by decide +kernel
theorem dX6_channel_113 : decode cX6_channel 113 = .ok (.aload_n 0, 1) := by decide +kernel
theorem dX6_channel_114 : decode cX6_channel 114 = .ok (.getfield 68, 3) := by decide +kernel
theorem dX6_channel_117 : decode cX6_channel 117 = .ok (.iload 4, 2) := by decide +kernel
theorem dX6_channel_119 : decode cX6_channel 119 = .ok (.iconst 0, 1) := by decide +kernel
theorem dX6_channel_120 : decode cX6_channel 120 = .ok (.iastore, 1) := by decide +kernel
theorem dX6_channel_121 : decode cX6_channel 121 = .ok (.aload_n 0, 1) := by decide +kernel
theorem dX6_channel_122 : decode cX6_channel 122 = .ok (.getfield 71, 3) := by decide +kernel
theorem dX6_channel_125 : decode cX6_channel 125 = .ok (.iload 4, 2) := by decide +kernel
theorem dX6_channel_127 : decode cX6_channel 127 = .ok (.iconst 0, 1) := by decide +kernel
theorem dX6_channel_128 : decode cX6_channel 128 = .ok (.iastore, 1) := by decide +kernel
theorem dX6_channel_129 : decode cX6_channel 129 = .ok (.aload_n 0, 1) := by decide +kernel
theorem dX6_channel_130 : decode cX6_channel 130 = .ok (.getfield 74, 3) := by decide +kernel
theorem dX6_channel_133 : decode cX6_channel 133 = .ok (.iload 4, 2) := by decide +kernel
theorem dX6_channel_135 : decode cX6_channel 135 = .ok (.iconst 0, 1) := by decide +kernel
theorem dX6_channel_136 : decode cX6_channel 136 = .ok (.bastore, 1) := by decide +kernel
theorem dX6_channel_137 : decode cX6_channel 137 = .ok (.aload_n 0, 1) := by decide +kernel
theorem dX6_channel_138 : decode cX6_channel 138 = .ok (.getfield 89, 3) := by decide +kernel
theorem dX6_channel_141 : decode cX6_channel 141 = .ok (.iload 4, 2) := by decide +kernel
theorem dX6_channel_143 : decode cX6_channel 143 = .ok (.iconst 0, 1) := by decide +kernel
theorem dX6_channel_144 : decode cX6_channel 144 = .ok (.iastore, 1) := by decide +kernel
theorem dX6_channel_145 : decode cX6_channel 145 = .ok (.aload_n 0, 1) := by decide +kernel
theorem dX6_channel_146 : decode cX6_channel 146 = .ok (.getfield 92, 3) := by decide +kernel
theorem dX6_channel_149 : decode cX6_channel 149 = .ok (.iload 4, 2) := by decide +kernel
theorem dX6_channel_151 : decode cX6_channel 151 = .ok (.iconst 0, 1) := by decide +kernel
theorem dX6_channel_152 : decode cX6_channel 152 = .ok (.iastore, 1) := by decide +kernel
theorem dX6_channel_153 : decode cX6_channel 153 = .ok (.aload_n 0, 1) := by decide +kernel
theorem dX6_channel_154 : decode cX6_channel 154 = .ok (.getfield 95, 3) := by decide +kernel
theorem dX6_channel_157 : decode cX6_channel 157 = .ok (.iload 4, 2) := by decide +kernel
theorem dX6_channel_159 : decode cX6_channel 159 = .ok (.iconst 0, 1) := by decide +kernel
theorem dX6_channel_160 : decode cX6_channel 160 = .ok (.iastore, 1) := by decide +kernel
theorem dX6_channel_161 : decode cX6_channel 161 = .ok (.aload_n 0, 1) := by decide +kernel
theorem dX6_channel_162 : decode cX6_channel 162 = .ok (.dup, 1) := by decide +kernel
theorem dX6_channel_163 : decode cX6_channel 163 = .ok (.getfield 135, 3) := by decide +kernel
theorem dX6_channel_166 : decode cX6_channel 166 = .ok (.iconst 1, 1) := by decide +kernel
theorem dX6_channel_167 : decode cX6_channel 167 = .ok (.iadd, 1) := by decide +kernel
theorem dX6_channel_168 : decode cX6_channel 168 = .ok (.putfield 135, 3) := by decide +kernel
theorem dX6_channel_171 : decode cX6_channel 171 = .ok (.iload 4, 2) := by decide +kernel
theorem dX6_channel_173 : decode cX6_channel 173 = .ok (.ireturn, 1) := by decide +kernel
theorem dX6_poison_0 : decode cX6_poison 0 = .ok (.aload_n 0, 1) := by decide +kernel
theorem dX6_poison_1 : decode cX6_poison 1 = .ok (.iload_n 1, 1) := by decide +kernel
theorem dX6_poison_2 : decode cX6_poison 2 = .ok (.invokevirtual 177, 3) := by decide +kernel
theorem dX6_poison_5 : decode cX6_poison 5 = .ok (.ifCond .eq 5, 3) := by decide +kernel
theorem dX6_poison_8 : decode cX6_poison 8 = .ok (.iconst (-1), 1) := by decide +kernel
