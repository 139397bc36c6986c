theorem dX6_taskAt_123 : decode cX6_taskAt 123 = .ok (.iload_n 1, 1) := by decide +kernel
theorem dX6_taskAt_124 : decode cX6_taskAt 124 = .ok (.iaload, 1) := by decide +kernel
theorem dX6_taskAt_125 : decode cX6_taskAt 125 = .ok (.aload_n 0, 1) := by decide +kernel
theorem dX6_taskAt_126 : decode cX6_taskAt 126 = .ok (.getfield 148, 3) := by decide +kernel
theorem dX6_taskAt_129 : decode cX6_taskAt 129 = .ok (.isub, 1) := by decide +kernel
theorem dX6_taskAt_130 : decode cX6_taskAt 130 = .ok (.goto 4, 3) := by decide +kernel
theorem dX6_taskAt_133 : decode cX6_taskAt 133 = .ok (.iconst 0, 1) := by decide +kernel
theorem dX6_taskAt_134 : decode cX6_taskAt 134 = .ok (.ireturn, 1) := by decide +kernel
theorem dX6_taskAt_135 : decode cX6_taskAt 135 = .ok (.aload_n 0, 1) := by decide +kernel
theorem dX6_taskAt_136 : decode cX6_taskAt 136 = .ok (.invokevirtual 198, 3) := by decide +kernel
theorem dX6_taskAt_139 : decode cX6_taskAt 139 = .ok (.aload_n 0, 1) := by decide +kernel
theorem dX6_taskAt_140 : decode cX6_taskAt 140 = .ok (.getfield 110, 3) := by decide +kernel
theorem dX6_taskAt_143 : decode cX6_taskAt 143 = .ok (.iload_n 1, 1) := by decide +kernel
theorem dX6_taskAt_144 : decode cX6_taskAt 144 = .ok (.baload, 1) := by decide +kernel
theorem dX6_taskAt_145 : decode cX6_taskAt 145 = .ok (.ifCond .eq 7, 3) := by decide +kernel
theorem dX6_taskAt_148 : decode cX6_taskAt 148 = .ok (.iconst 1, 1) := by decide +kernel
theorem dX6_taskAt_149 : decode cX6_taskAt 149 = .ok (.goto 4, 3) := by decide +kernel
theorem dX6_taskAt_152 : decode cX6_taskAt 152 = .ok (.iconst 0, 1) := by decide +kernel
theorem dX6_taskAt_153 : decode cX6_taskAt 153 = .ok (.ireturn, 1) := by decide +kernel
theorem dX6_taskAt_154 : decode cX6_taskAt 154 = .ok (.aload_n 0, 1) := by decide +kernel
theorem dX6_taskAt_155 : decode cX6_taskAt 155 = .ok (.getfield 25, 3) := by decide +kernel
theorem dX6_taskAt_158 : decode cX6_taskAt 158 = .ok (.iload_n 1, 1) := by decide +kernel
theorem dX6_taskAt_159 : decode cX6_taskAt 159 = .ok (.iaload, 1) := by decide +kernel
theorem dX6_taskAt_160 : decode cX6_taskAt 160 = .ok (.ireturn, 1) := by decide +kernel
theorem dX6_taskAt_161 : decode cX6_taskAt 161 = .ok (.aload_n 0, 1) := by decide +kernel
theorem dX6_taskAt_162 : decode cX6_taskAt 162 = .ok (.getfield 43, 3) := by decide +kernel
theorem dX6_taskAt_165 : decode cX6_taskAt 165 = .ok (.iload_n 1, 1) := by decide +kernel
theorem dX6_taskAt_166 : decode cX6_taskAt 166 = .ok (.iaload, 1) := by decide +kernel
theorem dX6_taskAt_167 : decode cX6_taskAt 167 = .ok (.ireturn, 1) := by decide +kernel
theorem dX6_taskAt_168 : decode cX6_taskAt 168 = .ok (.bipush (-2), 2) := by decide +kernel
theorem dX6_taskAt_170 : decode cX6_taskAt 170 = .ok (.ireturn, 1) := by decide +kernel
theorem dX6_channelAt_0 : decode cX6_channelAt 0 = .ok (.aload_n 0, 1) := by decide +kernel
theorem dX6_channelAt_1 : decode cX6_channelAt 1 = .ok (.iload_n 1, 1) := by decide +kernel
theorem dX6_channelAt_2 : decode cX6_channelAt 2 = .ok (.invokevirtual 249, 3) := by decide +kernel
theorem dX6_channelAt_5 : decode cX6_channelAt 5 = .ok (.ifCond .eq 5, 3) := by decide +kernel
theorem dX6_channelAt_8 : decode cX6_channelAt 8 = .ok (.iconst (-1), 1) := by decide +kernel
theorem dX6_channelAt_9 : decode cX6_channelAt 9 = .ok (.ireturn, 1) := by decide +kernel
theorem dX6_channelAt_10 : decode cX6_channelAt 10 = .ok (.iload_n 2, 1) := by decide +kernel
theorem dX6_channelAt_11 : decode cX6_channelAt 11 = .ok (.tableswitch 151 0 8 #[49, 56, 63, 78, 85, 92, 99, 126, 144], 49) := by decide +kernel
theorem dX6_channelAt_60 : decode cX6_channelAt 60 = .ok (.aload_n 0, 1) := by decide +kernel
theorem dX6_channelAt_61 : decode cX6_channelAt 61 = .ok (.getfield 49, 3) := by decide +kernel
theorem dX6_channelAt_64 : decode cX6_channelAt 64 = .ok (.iload_n 1, 1) := by decide +kernel
theorem dX6_channelAt_65 : decode cX6_channelAt 65 = .ok (.iaload, 1) := by decide +kernel
theorem dX6_channelAt_66 : decode cX6_channelAt 66 = .ok (.ireturn, 1) := by decide +kernel
theorem dX6_channelAt_67 : decode cX6_channelAt 67 = .ok (.aload_n 0, 1) := by decide +kernel
theorem dX6_channelAt_68 : decode cX6_channelAt 68 = .ok (.getfield 52, 3) := by decide +kernel
theorem dX6_channelAt_71 : decode cX6_channelAt 71 = .ok (.iload_n 1, 1) := by decide +kernel
theorem dX6_channelAt_72 : decode cX6_channelAt 72 = .ok (.iaload, 1) := by decide +kernel
theorem dX6_channelAt_73 : decode cX6_channelAt 73 = .ok (.ireturn, 1) := by decide +kernel
theorem dX6_channelAt_74 : decode cX6_channelAt 74 = .ok (.aload_n 0, 1) := by decide +kernel
theorem dX6_channelAt_75 : decode cX6_channelAt 75 = .ok (.getfield 55, 3) := by decide +kernel
theorem dX6_channelAt_78 : decode cX6_channelAt 78 = .ok (.iload_n 1, 1) := by decide +kernel
theorem dX6_channelAt_79 : decode cX6_channelAt 79 = .ok (.baload, 1) := by decide +kernel
theorem dX6_channelAt_80 : decode cX6_channelAt 80 = .ok (.ifCond .eq 7, 3) := by decide +kernel
theorem dX6_channelAt_83 : decode cX6_channelAt 83 = .ok (.iconst 1, 1) := by decide +kernel
theorem dX6_channelAt_84 : decode cX6_channelAt 84 = .ok (.goto 4, 3) := by decide +kernel
theorem dX6_channelAt_87 : decode cX6_channelAt 87 = .ok (.iconst 0, 1) := by decide +kernel
theorem dX6_channelAt_88 : decode cX6_channelAt 88 = .ok (.ireturn, 1) := by decide +kernel
theorem dX6_channelAt_89 : decode cX6_channelAt 89 = .ok (.aload_n 0, 1) := by decide +kernel
theorem dX6_channelAt_90 : decode cX6_channelAt 90 = .ok (.getfield 62, 3) := by decide +kernel
theorem dX6_channelAt_93 : decode cX6_channelAt 93 = .ok (.iload_n 1, 1) := by decide +kernel
theorem dX6_channelAt_94 : decode cX6_channelAt 94 = .ok (.iaload, 1) := by decide +kernel
theorem dX6_channelAt_95 : decode cX6_channelAt 95 = .ok (.ireturn, 1) := by decide +kernel
theorem dX6_channelAt_96 : decode cX6_channelAt 96 = .ok (.aload_n 0, 1) := by decide +kernel
theorem dX6_channelAt_97 : decode cX6_channelAt 97 = .ok (.getfield 65, 3) := by decide +kernel
theorem dX6_channelAt_100 : decode cX6_channelAt 100 = .ok (.iload_n 1, 1) := by decide +kernel
theorem dX6_channelAt_101 : decode cX6_channelAt 101 = .ok (.iaload, 1) := by decide +kernel
theorem dX6_channelAt_102 : decode cX6_channelAt 102 = .ok (.ireturn, 1) := by decide +kernel
theorem dX6_channelAt_103 : decode cX6_channelAt 103 = .ok (.aload_n 0, 1) := by decide +kernel
theorem dX6_channelAt_104 : decode cX6_channelAt 104 = .ok (.getfield 68, 3) := by decide +kernel
theorem dX6_channelAt_107 : decode cX6_channelAt 107 = .ok (.iload_n 1, 1) := by decide +kernel
theorem dX6_channelAt_108 : decode cX6_channelAt 108 = .ok (.iaload, 1) := by decide +kernel
theorem dX6_channelAt_109 : decode cX6_channelAt 109 = .ok (.ireturn, 1) := by decide +kernel
theorem dX6_channelAt_110 : decode cX6_channelAt 110 = .ok (.aload_n 0, 1) := by decide +kernel
theorem dX6_channelAt_111 : decode cX6_channelAt 111 = .ok (.getfield 74, 3) := by decide +kernel
theorem dX6_channelAt_114 : decode cX6_channelAt 114 = .ok (.iload_n 1, 1) := by decide +kernel
theorem dX6_channelAt_115 : decode cX6_channelAt 115 = .ok (.baload, 1) := by decide +kernel
theorem dX6_channelAt_116 : decode cX6_channelAt 116 = .ok (.ifCond .eq 19, 3) := by decide +kernel
theorem dX6_channelAt_119 : decode cX6_channelAt 119 = .ok (.aload_n 0, 1) := by decide +kernel
theorem dX6_channelAt_120 : decode cX6_channelAt 120 = .ok (.getfield 77, 3) := by decide +kernel
theorem dX6_channelAt_123 : decode cX6_channelAt 123 = .ok (.iload_n 1, 1) := by decide +kernel
theorem dX6_channelAt_124 : decode cX6_channelAt 124 = .ok (.iaload, 1) := by decide +kernel
theorem dX6_channelAt_125 : decode cX6_channelAt 125 = .ok (.aload_n 0, 1) := by decide +kernel
theorem dX6_channelAt_126 : decode cX6_channelAt 126 = .ok (.getfield 89, 3) := by decide +kernel
theorem dX6_channelAt_129 : decode cX6_channelAt 129 = .ok (.iload_n 1, 1) := by decide +kernel
theorem dX6_channelAt_130 : decode cX6_channelAt 130 = .ok (.iaload, 1) := by decide +kernel
theorem dX6_channelAt_131 : decode cX6_channelAt 131 = .ok (.isub, 1) := by decide +kernel
theorem dX6_channelAt_132 : decode cX6_channelAt 132 = .ok (.goto 4, 3) := by decide +kernel
theorem dX6_channelAt_135 : decode cX6_channelAt 135 = .ok (.iconst 0, 1) := by decide +kernel
theorem dX6_channelAt_136 : decode cX6_channelAt 136 = .ok (.ireturn, 1) := by decide +kernel
theorem dX6_channelAt_137 : decode cX6_channelAt 137 = .ok (.aload_n 0, 1) := by decide +kernel
theorem dX6_channelAt_138 : decode cX6_channelAt 138 = .ok (.invokevirtual 198, 3) := by decide +kernel
theorem dX6_channelAt_141 : decode cX6_channelAt 141 = .ok (.aload_n 0, 1) := by decide +kernel
theorem dX6_channelAt_142 : decode cX6_channelAt 142 = .ok (.iload_n 1, 1) := by decide +kernel
theorem dX6_channelAt_143 : decode cX6_channelAt 143 = .ok (.invokevirtual 180, 3) := by decide +kernel
theorem dX6_channelAt_146 : decode cX6_channelAt 146 = .ok (.ifCond .eq 7, 3) := by decide +kernel
theorem dX6_channelAt_149 : decode cX6_channelAt 149 = .ok (.iconst 1, 1) := by decide +kernel
theorem dX6_channelAt_150 : decode cX6_channelAt 150 = .ok (.goto 4, 3) := by decide +kernel
theorem dX6_channelAt_153 : decode cX6_channelAt 153 = .ok (.iconst 0, 1) := by decide +kernel
theorem dX6_channelAt_154 : decode cX6_channelAt 154 = .ok (.ireturn, 1) := by decide +kernel
theorem dX6_channelAt_155 : decode cX6_channelAt 155 = .ok (.aload_n 0, 1) := by decide +kernel
theorem dX6_channelAt_156 : decode cX6_channelAt 156 = .ok (.getfield 71, 3) := by decide +kernel
theorem dX6_channelAt_159 : decode cX6_channelAt 159 = .ok (.iload_n 1, 1) := by decide +kernel
theorem dX6_channelAt_160 : decode cX6_channelAt 160 = .ok (.iaload, 1) := by decide +kernel
theorem dX6_channelAt_161 : decode cX6_channelAt 161 = .ok (.ireturn, 1) := by decide +kernel
theorem dX6_channelAt_162 : decode cX6_channelAt 162 = .ok (.bipush (-2), 2) := by decide +kernel
theorem dX6_channelAt_164 : decode cX6_channelAt 164 = .ok (.ireturn, 1) := by decide +kernel
theorem dX6_row_0 : decode cX6_row 0 = .ok (.aload_n 0, 1) := by decide +kernel
theorem dX6_row_1 : decode cX6_row 1 = .ok (.iload_n 1, 1) := by decide +kernel
theorem dX6_row_2 : decode cX6_row 2 = .ok (.invokevirtual 249, 3) := by decide +kernel
theorem dX6_row_5 : decode cX6_row 5 = .ok (.ifCond .eq 5, 3) := by decide +kernel
theorem dX6_row_8 : decode cX6_row 8 = .ok (.iconst (-1), 1) := by decide +kernel
theorem dX6_row_9 : decode cX6_row 9 = .ok (.ireturn, 1) := by decide +kernel
theorem dX6_row_10 : decode cX6_row 10 = .ok (.iload_n 2, 1) := by decide +kernel
theorem dX6_row_11 : decode cX6_row 11 = .ok (.iconst 0, 1) := by decide +kernel
theorem dX6_row_12 : decode cX6_row 12 = .ok (.aload_n 0, 1) := by decide +kernel
theorem dX6_row_13 : decode cX6_row 13 = .ok (.getfield 62, 3) := by decide +kernel
theorem dX6_row_16 : decode cX6_row 16 = .ok (.iload_n 1, 1) := by decide +kernel
theorem dX6_row_17 : decode cX6_row 17 = .ok (.iaload, 1) := by decide +kernel
theorem dX6_row_18 : decode cX6_row 18 = .ok (.iconst 1, 1) := by decide +kernel
theorem dX6_row_19 : decode cX6_row 19 = .ok (.isub, 1) := by decide +kernel
theorem dX6_row_20 : decode cX6_row 20 = .ok (.invokestatic 169, 3) := by decide +kernel
theorem dX6_row_23 : decode cX6_row 23 = .ok (.ifCond .eq 17, 3) := by decide +kernel
theorem dX6_row_26 : decode cX6_row 26 = .ok (.aload_n 0, 1) := by decide +kernel
theorem dX6_row_27 : decode cX6_row 27 = .ok (.getfield 59, 3) := by decide +kernel
theorem dX6_row_30 : decode cX6_row 30 = .ok (.bipush 64, 2) := by decide +kernel
theorem dX6_row_32 : decode cX6_row 32 = .ok (.iload_n 1, 1) := by decide +kernel
theorem dX6_row_33 : decode cX6_row 33 = .ok (.imul, 1) := by decide +kernel
theorem dX6_row_34 : decode cX6_row 34 = .ok (.iload_n 2, 1) := by decide +kernel
theorem dX6_row_35 : decode cX6_row 35 = .ok (.iadd, 1) := by decide +kernel
theorem dX6_row_36 : decode cX6_row 36 = .ok (.iaload, 1) := by decide +kernel
theorem dX6_row_37 : decode cX6_row 37 = .ok (.goto 5, 3) := by decide +kernel
theorem dX6_row_40 : decode cX6_row 40 = .ok (.bipush (-9), 2) := by decide +kernel
theorem dX6_row_42 : decode cX6_row 42 = .ok (.ireturn, 1) := by decide +kernel
theorem dX6_out_0 : decode cX6_out 0 = .ok (.aload_n 0, 1) := by decide +kernel
theorem dX6_out_1 : decode cX6_out 1 = .ok (.iload_n 1, 1) := by decide +kernel
theorem dX6_out_2 : decode cX6_out 2 = .ok (.invokevirtual 177, 3) := by decide +kernel
theorem dX6_out_5 : decode cX6_out 5 = .ok (.ifCond .eq 5, 3) := by decide +kernel
theorem dX6_out_8 : decode cX6_out 8 = .ok (.iconst (-1), 1) := by decide +kernel
theorem dX6_out_9 : decode cX6_out 9 = .ok (.ireturn, 1) := by decide +kernel
theorem dX6_out_10 : decode cX6_out 10 = .ok (.iload_n 2, 1) := by decide +kernel
theorem dX6_out_11 : decode cX6_out 11 = .ok (.iconst 0, 1) := by decide +kernel
theorem dX6_out_12 : decode cX6_out 12 = .ok (.aload_n 0, 1) := by decide +kernel
theorem dX6_out_13 : decode cX6_out 13 = .ok (.getfield 25, 3) := by decide +kernel
theorem dX6_out_16 : decode cX6_out 16 = .ok (.iload_n 1, 1) := by decide +kernel
theorem dX6_out_17 : decode cX6_out 17 = .ok (.iaload, 1) := by decide +kernel
theorem dX6_out_18 : decode cX6_out 18 = .ok (.iconst 1, 1) := by decide +kernel
theorem dX6_out_19 : decode cX6_out 19 = .ok (.isub, 1) := by decide +kernel
theorem dX6_out_20 : decode cX6_out 20 = .ok (.invokestatic 169, 3) := by decide +kernel
theorem dX6_out_23 : decode cX6_out 23 = .ok (.ifCond .eq 18, 3) := by decide +kernel
theorem dX6_out_26 : decode cX6_out 26 = .ok (.aload_n 0, 1) := by decide +kernel
theorem dX6_out_27 : decode cX6_out 27 = .ok (.getfield 28, 3) := by decide +kernel
theorem dX6_out_30 : decode cX6_out 30 = .ok (.sipush 200, 3) := by decide +kernel
theorem dX6_out_33 : decode cX6_out 33 = .ok (.iload_n 1, 1) := by decide +kernel
theorem dX6_out_34 : decode cX6_out 34 = .ok (.imul, 1) := by decide +kernel
theorem dX6_out_35 : decode cX6_out 35 = .ok (.iload_n 2, 1) := by decide +kernel
theorem dX6_out_36 : decode cX6_out 36 = .ok (.iadd, 1) := by decide +kernel
theorem dX6_out_37 : decode cX6_out 37 = .ok (.iaload, 1) := by decide +kernel
theorem dX6_out_38 : decode cX6_out 38 = .ok (.goto 5, 3) := by decide +kernel
theorem dX6_out_41 : decode cX6_out 41 = .ok (.bipush (-9), 2) := by decide +kernel
theorem dX6_out_43 : decode cX6_out 43 = .ok (.ireturn, 1) := by decide +kernel
theorem dX6_aside_0 : decode cX6_aside 0 = .ok (.aload_n 0, 1) := by decide +kernel
theorem dX6_aside_1 : decode cX6_aside 1 = .ok (.iload_n 1, 1) := by decide +kernel
theorem dX6_aside_2 : decode cX6_aside 2 = .ok (.invokevirtual 177, 3) := by decide +kernel
theorem dX6_aside_5 : decode cX6_aside 5 = .ok (.ifCond .eq 5, 3) := by decide +kernel
theorem dX6_aside_8 : decode cX6_aside 8 = .ok (.iconst (-1), 1) := by decide +kernel
theorem dX6_aside_9 : decode cX6_aside 9 = .ok (.ireturn, 1) := by decide +kernel
theorem dX6_aside_10 : decode cX6_aside 10 = .ok (.iload_n 2, 1) := by decide +kernel
theorem dX6_aside_11 : decode cX6_aside 11 = .ok (.iconst 0, 1) := by decide +kernel
theorem dX6_aside_12 : decode cX6_aside 12 = .ok (.aload_n 0, 1) := by decide +kernel
theorem dX6_aside_13 : decode cX6_aside 13 = .ok (.getfield 43, 3) := by decide +kernel
theorem dX6_aside_16 : decode cX6_aside 16 = .ok (.iload_n 1, 1) := by decide +kernel
theorem dX6_aside_17 : decode cX6_aside 17 = .ok (.iaload, 1) := by decide +kernel
theorem dX6_aside_18 : decode cX6_aside 18 = .ok (.iconst 1, 1) := by decide +kernel
theorem dX6_aside_19 : decode cX6_aside 19 = .ok (.isub, 1) := by decide +kernel
theorem dX6_aside_20 : decode cX6_aside 20 = .ok (.invokestatic 169, 3) := by decide +kernel
theorem dX6_aside_23 : decode cX6_aside 23 = .ok (.ifCond .eq 17, 3) := by decide +kernel
theorem dX6_aside_26 : decode cX6_aside 26 = .ok (.aload_n 0, 1) := by decide +kernel
theorem dX6_aside_27 : decode cX6_aside 27 = .ok (.getfield 46, 3) := by decide +kernel
theorem dX6_aside_30 : decode cX6_aside 30 = .ok (.bipush 8, 2) := by decide +kernel
theorem dX6_aside_32 : decode cX6_aside 32 = .ok (.iload_n 1, 1) := by decide +kernel
theorem dX6_aside_33 : decode cX6_aside 33 = .ok (.imul, 1) := by decide +kernel
theorem dX6_aside_34 : decode cX6_aside 34 = .ok (.iload_n 2, 1) := by decide +kernel
theorem dX6_aside_35 : decode cX6_aside 35 = .ok (.iadd, 1) := by decide +kernel
theorem dX6_aside_36 : decode cX6_aside 36 = .ok (.iaload, 1) := by decide +kernel
theorem dX6_aside_37 : decode cX6_aside 37 = .ok (.goto 5, 3) := by decide +kernel
theorem dX6_aside_40 : decode cX6_aside 40 = .ok (.bipush (-9), 2) := by decide +kernel
theorem dX6_aside_42 : decode cX6_aside 42 = .ok (.ireturn, 1) := by decide +kernel
theorem dX6_cause_0 : decode cX6_cause 0 = .ok (.iload_n 2, 1) := by decide +kernel
theorem dX6_cause_1 : decode cX6_cause 1 = .ok (.iconst 0, 1) := by decide +kernel
theorem dX6_cause_2 : decode cX6_cause 2 = .ok (.iconst 2, 1) := by decide +kernel
theorem dX6_cause_3 : decode cX6_cause 3 = .ok (.invokestatic 169, 3) := by decide +kernel
theorem dX6_cause_6 : decode cX6_cause 6 = .ok (.ifCond .ne 6, 3) := by decide +kernel
theorem dX6_cause_9 : decode cX6_cause 9 = .ok (.bipush (-2), 2) := by decide +kernel
theorem dX6_cause_11 : decode cX6_cause 11 = .ok (.ireturn, 1) := by decide +kernel
theorem dX6_cause_12 : decode cX6_cause 12 = .ok (.iload_n 1, 1) := by decide +kernel
theorem dX6_cause_13 : decode cX6_cause 13 = .ok (.iconst 0, 1) := by decide +kernel
theorem dX6_cause_14 : decode cX6_cause 14 = .ok (.aload_n 0, 1) := by decide +kernel
theorem dX6_cause_15 : decode cX6_cause 15 = .ok (.getfield 160, 3) := by decide +kernel
theorem dX6_cause_18 : decode cX6_cause 18 = .ok (.iconst 1, 1) := by decide +kernel
theorem dX6_cause_19 : decode cX6_cause 19 = .ok (.isub, 1) := by decide +kernel
theorem dX6_cause_20 : decode cX6_cause 20 = .ok (.invokestatic 169, 3) := by decide +kernel
theorem dX6_cause_23 : decode cX6_cause 23 = .ok (.ifCond .ne 6, 3) := by decide +kernel
theorem dX6_cause_26 : decode cX6_cause 26 = .ok (.bipush (-9), 2) := by decide +kernel
theorem dX6_cause_28 : decode cX6_cause 28 = .ok (.ireturn, 1) := by decide +kernel
theorem dX6_cause_29 : decode cX6_cause 29 = .ok (.iload_n 2, 1) := by decide +kernel
theorem dX6_cause_30 : decode cX6_cause 30 = .ok (.ifCond .ne 12, 3) := by decide +kernel
theorem dX6_cause_33 : decode cX6_cause 33 = .ok (.aload_n 0, 1) := by decide +kernel
theorem dX6_cause_34 : decode cX6_cause 34 = .ok (.getfield 101, 3) := by decide +kernel
theorem dX6_cause_37 : decode cX6_cause 37 = .ok (.iload_n 1, 1) := by decide +kernel
theorem dX6_cause_38 : decode cX6_cause 38 = .ok (.iaload, 1) := by decide +kernel
theorem dX6_cause_39 : decode cX6_cause 39 = .ok (.goto 23, 3) := by decide +kernel
theorem dX6_cause_42 : decode cX6_cause 42 = .ok (.iload_n 2, 1) := by decide +kernel
theorem dX6_cause_43 : decode cX6_cause 43 = .ok (.iconst 1, 1) := by decide +kernel
theorem dX6_cause_44 : decode cX6_cause 44 = .ok (.if_icmp .ne 12, 3) := by decide +kernel
theorem dX6_cause_47 : decode cX6_cause 47 = .ok (.aload_n 0, 1) := by decide +kernel
theorem dX6_cause_48 : decode cX6_cause 48 = .ok (.getfield 104, 3) := by decide +kernel
theorem dX6_cause_51 : decode cX6_cause 51 = .ok (.iload_n 1, 1) := by decide +kernel
theorem dX6_cause_52 : decode cX6_cause 52 = .ok (.iaload, 1) := by decide +kernel
theorem dX6_cause_53 : decode cX6_cause 53 = .ok (.goto 9, 3) := by decide +kernel
theorem dX6_cause_56 : decode cX6_cause 56 = .ok (.aload_n 0, 1) := by decide +kernel
theorem dX6_cause_57 : decode cX6_cause 57 = .ok (.getfield 107, 3) := by decide +kernel
theorem dX6_cause_60 : decode cX6_cause 60 = .ok (.iload_n 1, 1) := by decide +kernel
theorem dX6_cause_61 : decode cX6_cause 61 = .ok (.iaload, 1) := by decide +kernel
theorem dX6_cause_62 : decode cX6_cause 62 = .ok (.ireturn, 1) := by decide +kernel
theorem dX6_doneMany_0 : decode cX6_doneMany 0 = .ok (.aload_n 0, 1) := by decide +kernel
theorem dX6_doneMany_1 : decode cX6_doneMany 1 = .ok (.invokevirtual 198, 3) := by decide +kernel
theorem dX6_doneMany_4 : decode cX6_doneMany 4 = .ok (.iconst 0, 1) := by decide +kernel
theorem dX6_doneMany_5 : decode cX6_doneMany 5 = .ok (.istore_n 1, 1) := by decide +kernel
theorem dX6_doneMany_6 : decode cX6_doneMany 6 = .ok (.iconst 0, 1) := by decide +kernel
theorem dX6_doneMany_7 : decode cX6_doneMany 7 = .ok (.istore_n 2, 1) := by decide +kernel
theorem dX6_doneMany_8 : decode cX6_doneMany 8 = .ok (.iload_n 2, 1) := by decide +kernel
theorem dX6_doneMany_9 : decode cX6_doneMany 9 = .ok (.aload_n 0, 1) := by decide +kernel
theorem dX6_doneMany_10 : decode cX6_doneMany 10 = .ok (.getfield 131, 3) := by decide +kernel
theorem dX6_doneMany_13 : decode cX6_doneMany 13 = .ok (.if_icmp .ge 26, 3) := by decide +kernel
theorem dX6_doneMany_16 : decode cX6_doneMany 16 = .ok (.iload_n 1, 1) := by decide +kernel
theorem dX6_doneMany_17 : decode cX6_doneMany 17 = .ok (.aload_n 0, 1) := by decide +kernel
theorem dX6_doneMany_18 : decode cX6_doneMany 18 = .ok (.getfield 110, 3) := by decide +kernel
theorem dX6_doneMany_21 : decode cX6_doneMany 21 = .ok (.iload_n 2, 1) := by decide +kernel
theorem dX6_doneMany_22 : decode cX6_doneMany 22 = .ok (.baload, 1) := by decide +kernel
theorem dX6_doneMany_23 : decode cX6_doneMany 23 = .ok (.ifCond .eq 7, 3) := by decide +kernel
theorem dX6_doneMany_26 : decode cX6_doneMany 26 = .ok (.iconst 1, 1) := by decide +kernel
theorem dX6_doneMany_27 : decode cX6_doneMany 27 = .ok (.goto 4, 3) := by decide +kernel
theorem dX6_doneMany_30 : decode cX6_doneMany 30 = .ok (.iconst 0, 1) := by decide +kernel
theorem dX6_doneMany_31 : decode cX6_doneMany 31 = .ok (.iadd, 1) := by decide +kernel
theorem dX6_doneMany_32 : decode cX6_doneMany 32 = .ok (.istore_n 1, 1) := by decide +kernel
theorem dX6_doneMany_33 : decode cX6_doneMany 33 = .ok (.iinc 2 1, 3) := by decide +kernel
theorem dX6_doneMany_36 : decode cX6_doneMany 36 = .ok (.goto (-28), 3) := by decide +kernel
theorem dX6_doneMany_39 : decode cX6_doneMany 39 = .ok (.iload_n 1, 1) := by decide +kernel
theorem dX6_doneMany_40 : decode cX6_doneMany 40 = .ok (.ireturn, 1) := by decide +kernel
theorem dX6_told_0 : decode cX6_told 0 = .ok (.iload_n 1, 1) := by decide +kernel
theorem dX6_told_1 : decode cX6_told 1 = .ok (.tableswitch 122 0 10 #[59, 64, 69, 74, 79, 84, 89, 102, 107, 112, 117], 59) := by decide +kernel
theorem dX6_told_60 : decode cX6_told 60 = .ok (.aload_n 0, 1) := by decide +kernel
theorem dX6_told_61 : decode cX6_told 61 = .ok (.getfield 131, 3) := by decide +kernel
theorem dX6_told_64 : decode cX6_told 64 = .ok (.ireturn, 1) := by decide +kernel
theorem dX6_told_65 : decode cX6_told 65 = .ok (.aload_n 0, 1) := by decide +kernel
theorem dX6_told_66 : decode cX6_told 66 = .ok (.getfield 135, 3) := by decide +kernel
theorem dX6_told_69 : decode cX6_told 69 = .ok (.ireturn, 1) := by decide +kernel
theorem dX6_told_70 : decode cX6_told 70 = .ok (.aload_n 0, 1) := by decide +kernel
theorem dX6_told_71 : decode cX6_told 71 = .ok (.getfield 151, 3) := by decide +kernel
theorem dX6_told_74 : decode cX6_told 74 = .ok (.ireturn, 1) := by decide +kernel
theorem dX6_told_75 : decode cX6_told 75 = .ok (.aload_n 0, 1) := by decide +kernel
theorem dX6_told_76 : decode cX6_told 76 = .ok (.getfield 148, 3) := by decide +kernel
theorem dX6_told_79 : decode cX6_told 79 = .ok (.ireturn, 1) := by decide +kernel
theorem dX6_told_80 : decode cX6_told 80 = .ok (.aload_n 0, 1) := by decide +kernel
theorem dX6_told_81 : decode cX6_told 81 = .ok (.getfield 157, 3) := by decide +kernel
theorem dX6_told_84 : decode cX6_told 84 = .ok (.ireturn, 1) := by decide +kernel
theorem dX6_told_85 : decode cX6_told 85 = .ok (.aload_n 0, 1) := by decide +kernel
theorem dX6_told_86 : decode cX6_told 86 = .ok (.getfield 160, 3) := by decide +kernel
theorem dX6_told_89 : decode cX6_told 89 = .ok (.ireturn, 1) := by decide +kernel
theorem dX6_told_90 : decode cX6_told 90 = .ok (.aload_n 0, 1) := by decide +kernel
theorem dX6_told_91 : decode cX6_told 91 = .ok (.getfield 163, 3) := by decide +kernel
theorem dX6_told_94 : decode cX6_told 94 = .ok (.ifCond .eq 7, 3) := by decide +kernel
theorem dX6_told_97 : decode cX6_told 97 = .ok (.iconst 1, 1) := by decide +kernel
theorem dX6_told_98 : decode cX6_told 98 = .ok (.goto 4, 3) := by decide +kernel
theorem dX6_told_101 : decode cX6_told 101 = .ok (.iconst 0, 1) := by decide +kernel
theorem dX6_told_102 : decode cX6_told 102 = .ok (.ireturn, 1) := by decide +kernel
theorem dX6_told_103 : decode cX6_told 103 = .ok (.aload_n 0, 1) := by decide +kernel
theorem dX6_told_104 : decode cX6_told 104 = .ok (.invokevirtual 253, 3) := by decide +kernel
theorem dX6_told_107 : decode cX6_told 107 = .ok (.ireturn, 1) := by decide +kernel
theorem dX6_told_108 : decode cX6_told 108 = .ok (.aload_n 0, 1) := by decide +kernel
theorem dX6_told_109 : decode cX6_told 109 = .ok (.invokevirtual 256, 3) := by decide +kernel
theorem dX6_told_112 : decode cX6_told 112 = .ok (.ireturn, 1) := by decide +kernel
theorem dX6_told_113 : decode cX6_told 113 = .ok (.aload_n 0, 1) := by decide +kernel
theorem dX6_told_114 : decode cX6_told 114 = .ok (.invokevirtual 242, 3) := by decide +kernel
theorem dX6_told_117 : decode cX6_told 117 = .ok (.ireturn, 1) := by decide +kernel
theorem dX6_told_118 : decode cX6_told 118 = .ok (.aload_n 0, 1) := by decide +kernel
theorem dX6_told_119 : decode cX6_told 119 = .ok (.getfield 166, 3) := by decide +kernel
theorem dX6_told_122 : decode cX6_told 122 = .ok (.ireturn, 1) := by decide +kernel
theorem dX6_told_123 : decode cX6_told 123 = .ok (.bipush (-2), 2) := by decide +kernel
theorem dX6_told_125 : decode cX6_told 125 = .ok (.ireturn, 1) := by decide +kernel
theorem dX6_clear_0 : decode cX6_clear 0 = .ok (.aload_n 0, 1) := by decide +kernel
theorem dX6_clear_1 : decode cX6_clear 1 = .ok (.getfield 131, 3) := by decide +kernel
theorem dX6_clear_4 : decode cX6_clear 4 = .ok (.istore_n 1, 1) := by decide +kernel
theorem dX6_clear_5 : decode cX6_clear 5 = .ok (.aload_n 0, 1) := by decide +kernel
theorem dX6_clear_6 : decode cX6_clear 6 = .ok (.invokevirtual 128, 3) := by decide +kernel
theorem dX6_clear_9 : decode cX6_clear 9 = .ok (.iload_n 1, 1) := by decide +kernel
theorem dX6_clear_10 : decode cX6_clear 10 = .ok (.ireturn, 1) := by decide +kernel
theorem dJ6_bitCount_0f7a4_0 : decode cJ6_bitCount_0f7a4 0 = .ok (.iload_n 0, 1) := by decide +kernel
theorem dJ6_bitCount_0f7a4_1 : decode cJ6_bitCount_0f7a4 1 = .ok (.iload_n 0, 1) := by decide +kernel
theorem dJ6_bitCount_0f7a4_2 : decode cJ6_bitCount_0f7a4 2 = .ok (.iconst 1, 1) := by decide +kernel
theorem dJ6_bitCount_0f7a4_3 : decode cJ6_bitCount_0f7a4 3 = .ok (.iushr, 1) := by decide +kernel
theorem dJ6_bitCount_0f7a4_4 : decode cJ6_bitCount_0f7a4 4 = .ok (.ldc_w 265, 3) := by decide +kernel
theorem dJ6_bitCount_0f7a4_7 : decode cJ6_bitCount_0f7a4 7 = .ok (.iand, 1) := by decide +kernel
theorem dJ6_bitCount_0f7a4_8 : decode cJ6_bitCount_0f7a4 8 = .ok (.isub, 1) := by decide +kernel
theorem dJ6_bitCount_0f7a4_9 : decode cJ6_bitCount_0f7a4 9 = .ok (.istore_n 0, 1) := by decide +kernel
theorem dJ6_bitCount_0f7a4_10 : decode cJ6_bitCount_0f7a4 10 = .ok (.iload_n 0, 1) := by decide +kernel
theorem dJ6_bitCount_0f7a4_11 : decode cJ6_bitCount_0f7a4 11 = .ok (.ldc_w 266, 3) := by decide +kernel
theorem dJ6_bitCount_0f7a4_14 : decode cJ6_bitCount_0f7a4 14 = .ok (.iand, 1) := by decide +kernel
theorem dJ6_bitCount_0f7a4_15 : decode cJ6_bitCount_0f7a4 15 = .ok (.iload_n 0, 1) := by decide +kernel
theorem dJ6_bitCount_0f7a4_16 : decode cJ6_bitCount_0f7a4 16 = .ok (.iconst 2, 1) := by decide +kernel
theorem dJ6_bitCount_0f7a4_17 : decode cJ6_bitCount_0f7a4 17 = .ok (.iushr, 1) := by decide +kernel
theorem dJ6_bitCount_0f7a4_18 : decode cJ6_bitCount_0f7a4 18 = .ok (.ldc_w 266, 3) := by decide +kernel
theorem dJ6_bitCount_0f7a4_21 : decode cJ6_bitCount_0f7a4 21 = .ok (.iand, 1) := by decide +kernel
theorem dJ6_bitCount_0f7a4_22 : decode cJ6_bitCount_0f7a4 22 = .ok (.iadd, 1) := by decide +kernel
theorem dJ6_bitCount_0f7a4_23 : decode cJ6_bitCount_0f7a4 23 = .ok (.istore_n 0, 1) := by decide +kernel
theorem dJ6_bitCount_0f7a4_24 : decode cJ6_bitCount_0f7a4 24 = .ok (.iload_n 0, 1) := by decide +kernel
theorem dJ6_bitCount_0f7a4_25 : decode cJ6_bitCount_0f7a4 25 = .ok (.iload_n 0, 1) := by decide +kernel
theorem dJ6_bitCount_0f7a4_26 : decode cJ6_bitCount_0f7a4 26 = .ok (.iconst 4, 1) := by decide +kernel
theorem dJ6_bitCount_0f7a4_27 : decode cJ6_bitCount_0f7a4 27 = .ok (.iushr, 1) := by decide +kernel
theorem dJ6_bitCount_0f7a4_28 : decode cJ6_bitCount_0f7a4 28 = .ok (.iadd, 1) := by decide +kernel
theorem dJ6_bitCount_0f7a4_29 : decode cJ6_bitCount_0f7a4 29 = .ok (.ldc_w 267, 3) := by decide +kernel
theorem dJ6_bitCount_0f7a4_32 : decode cJ6_bitCount_0f7a4 32 = .ok (.iand, 1) := by decide +kernel
theorem dJ6_bitCount_0f7a4_33 : decode cJ6_bitCount_0f7a4 33 = .ok (.istore_n 0, 1) := by decide +kernel
theorem dJ6_bitCount_0f7a4_34 : decode cJ6_bitCount_0f7a4 34 = .ok (.iload_n 0, 1) := by decide +kernel
theorem dJ6_bitCount_0f7a4_35 : decode cJ6_bitCount_0f7a4 35 = .ok (.iload_n 0, 1) := by decide +kernel
theorem dJ6_bitCount_0f7a4_36 : decode cJ6_bitCount_0f7a4 36 = .ok (.bipush 8, 2) := by decide +kernel
theorem dJ6_bitCount_0f7a4_38 : decode cJ6_bitCount_0f7a4 38 = .ok (.iushr, 1) := by decide +kernel
theorem dJ6_bitCount_0f7a4_39 : decode cJ6_bitCount_0f7a4 39 = .ok (.iadd, 1) := by decide +kernel
theorem dJ6_bitCount_0f7a4_40 : decode cJ6_bitCount_0f7a4 40 = .ok (.istore_n 0, 1) := by decide +kernel
theorem dJ6_bitCount_0f7a4_41 : decode cJ6_bitCount_0f7a4 41 = .ok (.iload_n 0, 1) := by decide +kernel
theorem dJ6_bitCount_0f7a4_42 : decode cJ6_bitCount_0f7a4 42 = .ok (.iload_n 0, 1) := by decide +kernel
theorem dJ6_bitCount_0f7a4_43 : decode cJ6_bitCount_0f7a4 43 = .ok (.bipush 16, 2) := by decide +kernel
theorem dJ6_bitCount_0f7a4_45 : decode cJ6_bitCount_0f7a4 45 = .ok (.iushr, 1) := by decide +kernel
theorem dJ6_bitCount_0f7a4_46 : decode cJ6_bitCount_0f7a4 46 = .ok (.iadd, 1) := by decide +kernel
theorem dJ6_bitCount_0f7a4_47 : decode cJ6_bitCount_0f7a4 47 = .ok (.istore_n 0, 1) := by decide +kernel
theorem dJ6_bitCount_0f7a4_48 : decode cJ6_bitCount_0f7a4 48 = .ok (.iload_n 0, 1) := by decide +kernel
theorem dJ6_bitCount_0f7a4_49 : decode cJ6_bitCount_0f7a4 49 = .ok (.bipush 63, 2) := by decide +kernel
theorem dJ6_bitCount_0f7a4_51 : decode cJ6_bitCount_0f7a4 51 = .ok (.iand, 1) := by decide +kernel
theorem dJ6_bitCount_0f7a4_52 : decode cJ6_bitCount_0f7a4 52 = .ok (.ireturn, 1) := by decide +kernel
theorem dL_law_0 : decode cL_law 0 = .ok (.new 7, 3) := by decide +kernel
theorem dL_law_3 : decode cL_law 3 = .ok (.dup, 1) := by decide +kernel
theorem dL_law_4 : decode cL_law 4 = .ok (.invokespecial 9, 3) := by decide +kernel
theorem dL_law_7 : decode cL_law 7 = .ok (.astore_n 1, 1) := by decide +kernel
theorem dL_law_8 : decode cL_law 8 = .ok (.new 10, 3) := by decide +kernel
theorem dL_law_11 : decode cL_law 11 = .ok (.dup, 1) := by decide +kernel
theorem dL_law_12 : decode cL_law 12 = .ok (.invokespecial 12, 3) := by decide +kernel
theorem dL_law_15 : decode cL_law 15 = .ok (.astore_n 2, 1) := by decide +kernel
theorem dL_law_16 : decode cL_law 16 = .ok (.iconst 0, 1) := by decide +kernel
theorem dL_law_17 : decode cL_law 17 = .ok (.istore_n 3, 1) := by decide +kernel
theorem dL_law_18 : decode cL_law 18 = .ok (.iload_n 3, 1) := by decide +kernel
theorem dL_law_19 : decode cL_law 19 = .ok (.aload_n 0, 1) := by decide +kernel
theorem dL_law_20 : decode cL_law 20 = .ok (.arraylength, 1) := by decide +kernel
theorem dL_law_21 : decode cL_law 21 = .ok (.iconst 4, 1) := by decide +kernel
theorem dL_law_22 : decode cL_law 22 = .ok (.isub, 1) := by decide +kernel
theorem dL_law_23 : decode cL_law 23 = .ok (.if_icmp .gt 676, 3) := by decide +kernel
theorem dL_law_26 : decode cL_law 26 = .ok (.aload_n 0, 1) := by decide +kernel
theorem dL_law_27 : decode cL_law 27 = .ok (.iload_n 3, 1) := by decide +kernel
theorem dL_law_28 : decode cL_law 28 = .ok (.iaload, 1) := by decide +kernel
theorem dL_law_29 : decode cL_law 29 = .ok (.bipush 31, 2) := by decide +kernel
theorem dL_law_31 : decode cL_law 31 = .ok (.iand, 1) := by decide +kernel
theorem dL_law_32 : decode cL_law 32 = .ok (.tableswitch 661 0 18 #[92, 135, 194, 227, 276, 299, 322, 345, 368, 391, 404, 427, 460, 493, 526, 559, 592, 625, 648], 92) := by decide +kernel
theorem dL_law_124 : decode cL_law 124 = .ok (.aload_n 1, 1) := by decide +kernel
theorem dL_law_125 : decode cL_law 125 = .ok (.aload_n 0, 1) := by decide +kernel
theorem dL_law_126 : decode cL_law 126 = .ok (.iload_n 3, 1) := by decide +kernel
theorem dL_law_127 : decode cL_law 127 = .ok (.iconst 1, 1) := by decide +kernel
theorem dL_law_128 : decode cL_law 128 = .ok (.iadd, 1) := by decide +kernel
theorem dL_law_129 : decode cL_law 129 = .ok (.iaload, 1) := by decide +kernel
theorem dL_law_130 : decode cL_law 130 = .ok (.aload_n 0, 1) := by decide +kernel
theorem dL_law_131 : decode cL_law 131 = .ok (.iload_n 3, 1) := by decide +kernel
theorem dL_law_132 : decode cL_law 132 = .ok (.iconst 2, 1) := by decide +kernel
theorem dL_law_133 : decode cL_law 133 = .ok (.iadd, 1) := by decide +kernel
theorem dL_law_134 : decode cL_law 134 = .ok (.iaload, 1) := by decide +kernel
theorem dL_law_135 : decode cL_law 135 = .ok (.aload_n 0, 1) := by decide +kernel
theorem dL_law_136 : decode cL_law 136 = .ok (.iload_n 3, 1) := by decide +kernel
theorem dL_law_137 : decode cL_law 137 = .ok (.iconst 3, 1) := by decide +kernel
theorem dL_law_138 : decode cL_law 138 = .ok (.iadd, 1) := by decide +kernel
theorem dL_law_139 : decode cL_law 139 = .ok (.iaload, 1) := by decide +kernel
theorem dL_law_140 : decode cL_law 140 = .ok (.invokevirtual 13, 3) := by decide +kernel
theorem dL_law_143 : decode cL_law 143 = .ok (.aload_n 2, 1) := by decide +kernel
theorem dL_law_144 : decode cL_law 144 = .ok (.aload_n 0, 1) := by decide +kernel
theorem dL_law_145 : decode cL_law 145 = .ok (.iload_n 3, 1) := by decide +kernel
theorem dL_law_146 : decode cL_law 146 = .ok (.iconst 1, 1) := by decide +kernel
theorem dL_law_147 : decode cL_law 147 = .ok (.iadd, 1) := by decide +kernel
theorem dL_law_148 : decode cL_law 148 = .ok (.iaload, 1) := by decide +kernel
theorem dL_law_149 : decode cL_law 149 = .ok (.aload_n 0, 1) := by decide +kernel
theorem dL_law_150 : decode cL_law 150 = .ok (.iload_n 3, 1) := by decide +kernel
theorem dL_law_151 : decode cL_law 151 = .ok (.iconst 2, 1) := by decide +kernel
theorem dL_law_152 : decode cL_law 152 = .ok (.iadd, 1) := by decide +kernel
theorem dL_law_153 : decode cL_law 153 = .ok (.iaload, 1) := by decide +kernel
theorem dL_law_154 : decode cL_law 154 = .ok (.aload_n 0, 1) := by decide +kernel
theorem dL_law_155 : decode cL_law 155 = .ok (.iload_n 3, 1) := by decide +kernel
theorem dL_law_156 : decode cL_law 156 = .ok (.iconst 3, 1) := by decide +kernel
theorem dL_law_157 : decode cL_law 157 = .ok (.iadd, 1) := by decide +kernel
theorem dL_law_158 : decode cL_law 158 = .ok (.iaload, 1) := by decide +kernel
theorem dL_law_159 : decode cL_law 159 = .ok (.invokevirtual 17, 3) := by decide +kernel
theorem dL_law_162 : decode cL_law 162 = .ok (.if_icmp .eq 531, 3) := by decide +kernel
theorem dL_law_165 : decode cL_law 165 = .ok (.iconst 0, 1) := by decide +kernel
theorem dL_law_166 : decode cL_law 166 = .ok (.ireturn, 1) := by decide +kernel
theorem dL_law_167 : decode cL_law 167 = .ok (.aload_n 1, 1) := by decide +kernel
theorem dL_law_168 : decode cL_law 168 = .ok (.aload_n 0, 1) := by decide +kernel
theorem dL_law_169 : decode cL_law 169 = .ok (.iload_n 3, 1) := by decide +kernel
theorem dL_law_170 : decode cL_law 170 = .ok (.iconst 1, 1) := by decide +kernel
theorem dL_law_171 : decode cL_law 171 = .ok (.iadd, 1) := by decide +kernel
theorem dL_law_172 : decode cL_law 172 = .ok (.iaload, 1) := by decide +kernel
theorem dL_law_173 : decode cL_law 173 = .ok (.aload_n 0, 1) := by decide +kernel
theorem dL_law_174 : decode cL_law 174 = .ok (.iload_n 3, 1) := by decide +kernel
theorem dL_law_175 : decode cL_law 175 = .ok (.iconst 2, 1) := by decide +kernel
theorem dL_law_176 : decode cL_law 176 = .ok (.iadd, 1) := by decide +kernel
theorem dL_law_177 : decode cL_law 177 = .ok (.iaload, 1) := by decide +kernel
theorem dL_law_178 : decode cL_law 178 = .ok (.aload_n 0, 1) := by decide +kernel
theorem dL_law_179 : decode cL_law 179 = .ok (.iload_n 3, 1) := by decide +kernel
theorem dL_law_180 : decode cL_law 180 = .ok (.iconst 3, 1) := by decide +kernel
theorem dL_law_181 : decode cL_law 181 = .ok (.iadd, 1) := by decide +kernel
theorem dL_law_182 : decode cL_law 182 = .ok (.iaload, 1) := by decide +kernel
theorem dL_law_183 : decode cL_law 183 = .ok (.ifCond .eq 7, 3) := by decide +kernel
theorem dL_law_186 : decode cL_law 186 = .ok (.iconst 1, 1) := by decide +kernel
theorem dL_law_187 : decode cL_law 187 = .ok (.goto 4, 3) := by decide +kernel
theorem dL_law_190 : decode cL_law 190 = .ok (.iconst 0, 1) := by decide +kernel
theorem dL_law_191 : decode cL_law 191 = .ok (.invokevirtual 18, 3) := by decide +kernel
theorem dL_law_194 : decode cL_law 194 = .ok (.aload_n 2, 1) := by decide +kernel
theorem dL_law_195 : decode cL_law 195 = .ok (.aload_n 0, 1) := by decide +kernel
theorem dL_law_196 : decode cL_law 196 = .ok (.iload_n 3, 1) := by decide +kernel
theorem dL_law_197 : decode cL_law 197 = .ok (.iconst 1, 1) := by decide +kernel
theorem dL_law_198 : decode cL_law 198 = .ok (.iadd, 1) := by decide +kernel
theorem dL_law_199 : decode cL_law 199 = .ok (.iaload, 1) := by decide +kernel
theorem dL_law_200 : decode cL_law 200 = .ok (.aload_n 0, 1) := by decide +kernel
theorem dL_law_201 : decode cL_law 201 = .ok (.iload_n 3, 1) := by decide +kernel
theorem dL_law_202 : decode cL_law 202 = .ok (.iconst 2, 1) := by decide +kernel
theorem dL_law_203 : decode cL_law 203 = .ok (.iadd, 1) := by decide +kernel
theorem dL_law_204 : decode cL_law 204 = .ok (.iaload, 1) := by decide +kernel
theorem dL_law_205 : decode cL_law 205 = .ok (.aload_n 0, 1) := by decide +kernel
theorem dL_law_206 : decode cL_law 206 = .ok (.iload_n 3, 1) := by decide +kernel
theorem dL_law_207 : decode cL_law 207 = .ok (.iconst 3, 1) := by decide +kernel
theorem dL_law_208 : decode cL_law 208 = .ok (.iadd, 1) := by decide +kernel
theorem dL_law_209 : decode cL_law 209 = .ok (.iaload, 1) := by decide +kernel
theorem dL_law_210 : decode cL_law 210 = .ok (.ifCond .eq 7, 3) := by decide +kernel
theorem dL_law_213 : decode cL_law 213 = .ok (.iconst 1, 1) := by decide +kernel
theorem dL_law_214 : decode cL_law 214 = .ok (.goto 4, 3) := by decide +kernel
theorem dL_law_217 : decode cL_law 217 = .ok (.iconst 0, 1) := by decide +kernel
theorem dL_law_218 : decode cL_law 218 = .ok (.invokevirtual 22, 3) := by decide +kernel
theorem dL_law_221 : decode cL_law 221 = .ok (.if_icmp .eq 472, 3) := by decide +kernel
theorem dL_law_224 : decode cL_law 224 = .ok (.iconst 0, 1) := by decide +kernel
theorem dL_law_225 : decode cL_law 225 = .ok (.ireturn, 1) := by decide +kernel
theorem dL_law_226 : decode cL_law 226 = .ok (.aload_n 1, 1) := by decide +kernel
theorem dL_law_227 : decode cL_law 227 = .ok (.aload_n 0, 1) := by decide +kernel
theorem dL_law_228 : decode cL_law 228 = .ok (.iload_n 3, 1) := by decide +kernel
theorem dL_law_229 : decode cL_law 229 = .ok (.iconst 1, 1) := by decide +kernel
theorem dL_law_230 : decode cL_law 230 = .ok (.iadd, 1) := by decide +kernel
theorem dL_law_231 : decode cL_law 231 = .ok (.iaload, 1) := by decide +kernel
