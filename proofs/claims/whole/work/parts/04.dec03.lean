theorem dX5_fail_26 : decode cX5_fail 26 = .ok (.invokevirtual 106, 3) := by decide +kernel
theorem dX5_fail_29 : decode cX5_fail 29 = .ok (.ireturn, 1) := by decide +kernel
theorem dX5_gone_0 : decode cX5_gone 0 = .ok (.iload_n 1, 1) := by decide +kernel
theorem dX5_gone_1 : decode cX5_gone 1 = .ok (.invokestatic 37, 3) := by decide +kernel
theorem dX5_gone_4 : decode cX5_gone 4 = .ok (.ifCond .ne 5, 3) := by decide +kernel
theorem dX5_gone_7 : decode cX5_gone 7 = .ok (.iconst (-1), 1) := by decide +kernel
theorem dX5_gone_8 : decode cX5_gone 8 = .ok (.ireturn, 1) := by decide +kernel
theorem dX5_gone_9 : decode cX5_gone 9 = .ok (.aload_n 0, 1) := by decide +kernel
theorem dX5_gone_10 : decode cX5_gone 10 = .ok (.getfield 30, 3) := by decide +kernel
theorem dX5_gone_13 : decode cX5_gone 13 = .ok (.iload_n 1, 1) := by decide +kernel
theorem dX5_gone_14 : decode cX5_gone 14 = .ok (.baload, 1) := by decide +kernel
theorem dX5_gone_15 : decode cX5_gone 15 = .ok (.ifCond .eq 18, 3) := by decide +kernel
theorem dX5_gone_18 : decode cX5_gone 18 = .ok (.aload_n 0, 1) := by decide +kernel
theorem dX5_gone_19 : decode cX5_gone 19 = .ok (.invokevirtual 120, 3) := by decide +kernel
theorem dX5_gone_22 : decode cX5_gone 22 = .ok (.iconst 1, 1) := by decide +kernel
theorem dX5_gone_23 : decode cX5_gone 23 = .ok (.if_icmp .le 10, 3) := by decide +kernel
theorem dX5_gone_26 : decode cX5_gone 26 = .ok (.aload_n 0, 1) := by decide +kernel
theorem dX5_gone_27 : decode cX5_gone 27 = .ok (.getfield 85, 3) := by decide +kernel
theorem dX5_gone_30 : decode cX5_gone 30 = .ok (.ifCond .eq 6, 3) := by decide +kernel
theorem dX5_gone_33 : decode cX5_gone 33 = .ok (.bipush (-3), 2) := by decide +kernel
theorem dX5_gone_35 : decode cX5_gone 35 = .ok (.ireturn, 1) := by decide +kernel
theorem dX5_gone_36 : decode cX5_gone 36 = .ok (.aload_n 0, 1) := by decide +kernel
theorem dX5_gone_37 : decode cX5_gone 37 = .ok (.getfield 30, 3) := by decide +kernel
theorem dX5_gone_40 : decode cX5_gone 40 = .ok (.iload_n 1, 1) := by decide +kernel
theorem dX5_gone_41 : decode cX5_gone 41 = .ok (.iconst 0, 1) := by decide +kernel
theorem dX5_gone_42 : decode cX5_gone 42 = .ok (.bastore, 1) := by decide +kernel
theorem dX5_gone_43 : decode cX5_gone 43 = .ok (.aload_n 0, 1) := by decide +kernel
theorem dX5_gone_44 : decode cX5_gone 44 = .ok (.getfield 10, 3) := by decide +kernel
theorem dX5_gone_47 : decode cX5_gone 47 = .ok (.iload_n 1, 1) := by decide +kernel
theorem dX5_gone_48 : decode cX5_gone 48 = .ok (.invokevirtual 124, 3) := by decide +kernel
theorem dX5_gone_51 : decode cX5_gone 51 = .ok (.istore_n 2, 1) := by decide +kernel
theorem dX5_gone_52 : decode cX5_gone 52 = .ok (.aload_n 0, 1) := by decide +kernel
theorem dX5_gone_53 : decode cX5_gone 53 = .ok (.iload_n 2, 1) := by decide +kernel
theorem dX5_gone_54 : decode cX5_gone 54 = .ok (.iconst 2, 1) := by decide +kernel
theorem dX5_gone_55 : decode cX5_gone 55 = .ok (.invokevirtual 127, 3) := by decide +kernel
theorem dX5_gone_58 : decode cX5_gone 58 = .ok (.istore_n 3, 1) := by decide +kernel
theorem dX5_gone_59 : decode cX5_gone 59 = .ok (.aload_n 0, 1) := by decide +kernel
theorem dX5_gone_60 : decode cX5_gone 60 = .ok (.getfield 85, 3) := by decide +kernel
theorem dX5_gone_63 : decode cX5_gone 63 = .ok (.ifCond .eq 5, 3) := by decide +kernel
theorem dX5_gone_66 : decode cX5_gone 66 = .ok (.iconst 0, 1) := by decide +kernel
theorem dX5_gone_67 : decode cX5_gone 67 = .ok (.ireturn, 1) := by decide +kernel
theorem dX5_gone_68 : decode cX5_gone 68 = .ok (.aload_n 0, 1) := by decide +kernel
theorem dX5_gone_69 : decode cX5_gone 69 = .ok (.iload_n 2, 1) := by decide +kernel
theorem dX5_gone_70 : decode cX5_gone 70 = .ok (.invokevirtual 130, 3) := by decide +kernel
theorem dX5_gone_73 : decode cX5_gone 73 = .ok (.aload_n 0, 1) := by decide +kernel
theorem dX5_gone_74 : decode cX5_gone 74 = .ok (.getfield 10, 3) := by decide +kernel
theorem dX5_gone_77 : decode cX5_gone 77 = .ok (.iload_n 2, 1) := by decide +kernel
theorem dX5_gone_78 : decode cX5_gone 78 = .ok (.invokevirtual 133, 3) := by decide +kernel
theorem dX5_gone_81 : decode cX5_gone 81 = .ok (.aload_n 0, 1) := by decide +kernel
theorem dX5_gone_82 : decode cX5_gone 82 = .ok (.iload_n 2, 1) := by decide +kernel
theorem dX5_gone_83 : decode cX5_gone 83 = .ok (.iload_n 3, 1) := by decide +kernel
theorem dX5_gone_84 : decode cX5_gone 84 = .ok (.invokevirtual 136, 3) := by decide +kernel
theorem dX5_gone_87 : decode cX5_gone 87 = .ok (.ireturn, 1) := by decide +kernel
theorem dX5_lose_0 : decode cX5_lose 0 = .ok (.aload_n 0, 1) := by decide +kernel
theorem dX5_lose_1 : decode cX5_lose 1 = .ok (.getfield 10, 3) := by decide +kernel
theorem dX5_lose_4 : decode cX5_lose 4 = .ok (.iload_n 1, 1) := by decide +kernel
theorem dX5_lose_5 : decode cX5_lose 5 = .ok (.invokevirtual 139, 3) := by decide +kernel
theorem dX5_lose_8 : decode cX5_lose 8 = .ok (.ifCond .ne 5, 3) := by decide +kernel
theorem dX5_lose_11 : decode cX5_lose 11 = .ok (.iconst (-1), 1) := by decide +kernel
theorem dX5_lose_12 : decode cX5_lose 12 = .ok (.ireturn, 1) := by decide +kernel
theorem dX5_lose_13 : decode cX5_lose 13 = .ok (.aload_n 0, 1) := by decide +kernel
theorem dX5_lose_14 : decode cX5_lose 14 = .ok (.getfield 10, 3) := by decide +kernel
theorem dX5_lose_17 : decode cX5_lose 17 = .ok (.getfield 142, 3) := by decide +kernel
theorem dX5_lose_20 : decode cX5_lose 20 = .ok (.iload_n 1, 1) := by decide +kernel
theorem dX5_lose_21 : decode cX5_lose 21 = .ok (.aaload, 1) := by decide +kernel
theorem dX5_lose_22 : decode cX5_lose 22 = .ok (.astore_n 2, 1) := by decide +kernel
theorem dX5_lose_23 : decode cX5_lose 23 = .ok (.aload_n 2, 1) := by decide +kernel
theorem dX5_lose_24 : decode cX5_lose 24 = .ok (.getfield 146, 3) := by decide +kernel
theorem dX5_lose_27 : decode cX5_lose 27 = .ok (.ifCond .eq 10, 3) := by decide +kernel
theorem dX5_lose_30 : decode cX5_lose 30 = .ok (.aload_n 0, 1) := by decide +kernel
theorem dX5_lose_31 : decode cX5_lose 31 = .ok (.getfield 85, 3) := by decide +kernel
theorem dX5_lose_34 : decode cX5_lose 34 = .ok (.ifCond .eq 6, 3) := by decide +kernel
theorem dX5_lose_37 : decode cX5_lose 37 = .ok (.bipush (-3), 2) := by decide +kernel
theorem dX5_lose_39 : decode cX5_lose 39 = .ok (.ireturn, 1) := by decide +kernel
theorem dX5_lose_40 : decode cX5_lose 40 = .ok (.aload_n 2, 1) := by decide +kernel
theorem dX5_lose_41 : decode cX5_lose 41 = .ok (.invokevirtual 151, 3) := by decide +kernel
theorem dX5_lose_44 : decode cX5_lose 44 = .ok (.aload_n 2, 1) := by decide +kernel
theorem dX5_lose_45 : decode cX5_lose 45 = .ok (.getfield 154, 3) := by decide +kernel
theorem dX5_lose_48 : decode cX5_lose 48 = .ok (.ifCond .eq 14, 3) := by decide +kernel
theorem dX5_lose_51 : decode cX5_lose 51 = .ok (.aload_n 2, 1) := by decide +kernel
theorem dX5_lose_52 : decode cX5_lose 52 = .ok (.getfield 157, 3) := by decide +kernel
theorem dX5_lose_55 : decode cX5_lose 55 = .ok (.aload_n 2, 1) := by decide +kernel
theorem dX5_lose_56 : decode cX5_lose 56 = .ok (.getfield 160, 3) := by decide +kernel
theorem dX5_lose_59 : decode cX5_lose 59 = .ok (.if_icmp .lt 5, 3) := by decide +kernel
theorem dX5_lose_62 : decode cX5_lose 62 = .ok (.iconst 0, 1) := by decide +kernel
theorem dX5_lose_63 : decode cX5_lose 63 = .ok (.ireturn, 1) := by decide +kernel
theorem dX5_lose_64 : decode cX5_lose 64 = .ok (.aload_n 0, 1) := by decide +kernel
theorem dX5_lose_65 : decode cX5_lose 65 = .ok (.aload_n 2, 1) := by decide +kernel
theorem dX5_lose_66 : decode cX5_lose 66 = .ok (.getfield 163, 3) := by decide +kernel
theorem dX5_lose_69 : decode cX5_lose 69 = .ok (.iconst 3, 1) := by decide +kernel
theorem dX5_lose_70 : decode cX5_lose 70 = .ok (.invokevirtual 106, 3) := by decide +kernel
theorem dX5_lose_73 : decode cX5_lose 73 = .ok (.ireturn, 1) := by decide +kernel
theorem dX5_tick_0 : decode cX5_tick 0 = .ok (.iload_n 1, 1) := by decide +kernel
theorem dX5_tick_1 : decode cX5_tick 1 = .ok (.iconst 1, 1) := by decide +kernel
theorem dX5_tick_2 : decode cX5_tick 2 = .ok (.if_icmp .lt 9, 3) := by decide +kernel
theorem dX5_tick_5 : decode cX5_tick 5 = .ok (.iload_n 1, 1) := by decide +kernel
theorem dX5_tick_6 : decode cX5_tick 6 = .ok (.bipush 100, 2) := by decide +kernel
theorem dX5_tick_8 : decode cX5_tick 8 = .ok (.if_icmp .le 6, 3) := by decide +kernel
theorem dX5_tick_11 : decode cX5_tick 11 = .ok (.bipush (-2), 2) := by decide +kernel
theorem dX5_tick_13 : decode cX5_tick 13 = .ok (.ireturn, 1) := by decide +kernel
theorem dX5_tick_14 : decode cX5_tick 14 = .ok (.aload_n 0, 1) := by decide +kernel
theorem dX5_tick_15 : decode cX5_tick 15 = .ok (.ldc 166, 2) := by decide +kernel
theorem dX5_tick_17 : decode cX5_tick 17 = .ok (.aload_n 0, 1) := by decide +kernel
theorem dX5_tick_18 : decode cX5_tick 18 = .ok (.getfield 88, 3) := by decide +kernel
theorem dX5_tick_21 : decode cX5_tick 21 = .ok (.iload_n 1, 1) := by decide +kernel
theorem dX5_tick_22 : decode cX5_tick 22 = .ok (.iadd, 1) := by decide +kernel
theorem dX5_tick_23 : decode cX5_tick 23 = .ok (.invokestatic 167, 3) := by decide +kernel
theorem dX5_tick_26 : decode cX5_tick 26 = .ok (.putfield 88, 3) := by decide +kernel
theorem dX5_tick_29 : decode cX5_tick 29 = .ok (.aload_n 0, 1) := by decide +kernel
theorem dX5_tick_30 : decode cX5_tick 30 = .ok (.getfield 88, 3) := by decide +kernel
theorem dX5_tick_33 : decode cX5_tick 33 = .ok (.ireturn, 1) := by decide +kernel
theorem dX5_mark_0 : decode cX5_mark 0 = .ok (.aload_n 0, 1) := by decide +kernel
theorem dX5_mark_1 : decode cX5_mark 1 = .ok (.getfield 85, 3) := by decide +kernel
theorem dX5_mark_4 : decode cX5_mark 4 = .ok (.ifCond .ne 17, 3) := by decide +kernel
theorem dX5_mark_7 : decode cX5_mark 7 = .ok (.aload_n 0, 1) := by decide +kernel
theorem dX5_mark_8 : decode cX5_mark 8 = .ok (.getfield 10, 3) := by decide +kernel
theorem dX5_mark_11 : decode cX5_mark 11 = .ok (.aload_n 0, 1) := by decide +kernel
theorem dX5_mark_12 : decode cX5_mark 12 = .ok (.getfield 88, 3) := by decide +kernel
theorem dX5_mark_15 : decode cX5_mark 15 = .ok (.invokevirtual 172, 3) := by decide +kernel
theorem dX5_mark_18 : decode cX5_mark 18 = .ok (.ifCond .le 6, 3) := by decide +kernel
theorem dX5_mark_21 : decode cX5_mark 21 = .ok (.bipush (-3), 2) := by decide +kernel
theorem dX5_mark_23 : decode cX5_mark 23 = .ok (.ireturn, 1) := by decide +kernel
theorem dX5_mark_24 : decode cX5_mark 24 = .ok (.aload_n 0, 1) := by decide +kernel
theorem dX5_mark_25 : decode cX5_mark 25 = .ok (.getfield 10, 3) := by decide +kernel
theorem dX5_mark_28 : decode cX5_mark 28 = .ok (.invokevirtual 175, 3) := by decide +kernel
theorem dX5_mark_31 : decode cX5_mark 31 = .ok (.aload_n 0, 1) := by decide +kernel
theorem dX5_mark_32 : decode cX5_mark 32 = .ok (.dup, 1) := by decide +kernel
theorem dX5_mark_33 : decode cX5_mark 33 = .ok (.getfield 178, 3) := by decide +kernel
theorem dX5_mark_36 : decode cX5_mark 36 = .ok (.iconst 1, 1) := by decide +kernel
theorem dX5_mark_37 : decode cX5_mark 37 = .ok (.iadd, 1) := by decide +kernel
theorem dX5_mark_38 : decode cX5_mark 38 = .ok (.putfield 178, 3) := by decide +kernel
theorem dX5_mark_41 : decode cX5_mark 41 = .ok (.aload_n 0, 1) := by decide +kernel
theorem dX5_mark_42 : decode cX5_mark 42 = .ok (.getfield 178, 3) := by decide +kernel
theorem dX5_mark_45 : decode cX5_mark 45 = .ok (.ireturn, 1) := by decide +kernel
theorem dX5_region_0 : decode cX5_region 0 = .ok (.aload_n 0, 1) := by decide +kernel
theorem dX5_region_1 : decode cX5_region 1 = .ok (.getfield 10, 3) := by decide +kernel
theorem dX5_region_4 : decode cX5_region 4 = .ok (.iload_n 1, 1) := by decide +kernel
theorem dX5_region_5 : decode cX5_region 5 = .ok (.invokevirtual 57, 3) := by decide +kernel
theorem dX5_region_8 : decode cX5_region 8 = .ok (.ifCond .ne 5, 3) := by decide +kernel
theorem dX5_region_11 : decode cX5_region 11 = .ok (.iconst (-1), 1) := by decide +kernel
theorem dX5_region_12 : decode cX5_region 12 = .ok (.ireturn, 1) := by decide +kernel
theorem dX5_region_13 : decode cX5_region 13 = .ok (.aload_n 0, 1) := by decide +kernel
theorem dX5_region_14 : decode cX5_region 14 = .ok (.getfield 10, 3) := by decide +kernel
theorem dX5_region_17 : decode cX5_region 17 = .ok (.iconst 1, 1) := by decide +kernel
theorem dX5_region_18 : decode cX5_region 18 = .ok (.iload_n 1, 1) := by decide +kernel
theorem dX5_region_19 : decode cX5_region 19 = .ok (.ishl, 1) := by decide +kernel
theorem dX5_region_20 : decode cX5_region 20 = .ok (.invokevirtual 181, 3) := by decide +kernel
theorem dX5_region_23 : decode cX5_region 23 = .ok (.ireturn, 1) := by decide +kernel
theorem dX5_taskAt_0 : decode cX5_taskAt 0 = .ok (.aload_n 0, 1) := by decide +kernel
theorem dX5_taskAt_1 : decode cX5_taskAt 1 = .ok (.getfield 10, 3) := by decide +kernel
theorem dX5_taskAt_4 : decode cX5_taskAt 4 = .ok (.iload_n 1, 1) := by decide +kernel
theorem dX5_taskAt_5 : decode cX5_taskAt 5 = .ok (.invokevirtual 57, 3) := by decide +kernel
theorem dX5_taskAt_8 : decode cX5_taskAt 8 = .ok (.ifCond .ne 5, 3) := by decide +kernel
theorem dX5_taskAt_11 : decode cX5_taskAt 11 = .ok (.iconst (-1), 1) := by decide +kernel
theorem dX5_taskAt_12 : decode cX5_taskAt 12 = .ok (.ireturn, 1) := by decide +kernel
theorem dX5_taskAt_13 : decode cX5_taskAt 13 = .ok (.aload_n 0, 1) := by decide +kernel
theorem dX5_taskAt_14 : decode cX5_taskAt 14 = .ok (.getfield 10, 3) := by decide +kernel
theorem dX5_taskAt_17 : decode cX5_taskAt 17 = .ok (.getfield 60, 3) := by decide +kernel
theorem dX5_taskAt_20 : decode cX5_taskAt 20 = .ok (.iload_n 1, 1) := by decide +kernel
theorem dX5_taskAt_21 : decode cX5_taskAt 21 = .ok (.aaload, 1) := by decide +kernel
theorem dX5_taskAt_22 : decode cX5_taskAt 22 = .ok (.astore_n 3, 1) := by decide +kernel
theorem dX5_taskAt_23 : decode cX5_taskAt 23 = .ok (.iload_n 2, 1) := by decide +kernel
theorem dX5_taskAt_24 : decode cX5_taskAt 24 = .ok (.tableswitch 120 0 9 #[56, 61, 66, 71, 76, 81, 86, 95, 110, 115], 56) := by decide +kernel
theorem dX5_taskAt_80 : decode cX5_taskAt 80 = .ok (.aload_n 3, 1) := by decide +kernel
theorem dX5_taskAt_81 : decode cX5_taskAt 81 = .ok (.getfield 64, 3) := by decide +kernel
theorem dX5_taskAt_84 : decode cX5_taskAt 84 = .ok (.ireturn, 1) := by decide +kernel
theorem dX5_taskAt_85 : decode cX5_taskAt 85 = .ok (.aload_n 3, 1) := by decide +kernel
theorem dX5_taskAt_86 : decode cX5_taskAt 86 = .ok (.getfield 184, 3) := by decide +kernel
theorem dX5_taskAt_89 : decode cX5_taskAt 89 = .ok (.ireturn, 1) := by decide +kernel
theorem dX5_taskAt_90 : decode cX5_taskAt 90 = .ok (.aload_n 3, 1) := by decide +kernel
theorem dX5_taskAt_91 : decode cX5_taskAt 91 = .ok (.getfield 187, 3) := by decide +kernel
theorem dX5_taskAt_94 : decode cX5_taskAt 94 = .ok (.ireturn, 1) := by decide +kernel
theorem dX5_taskAt_95 : decode cX5_taskAt 95 = .ok (.aload_n 3, 1) := by decide +kernel
theorem dX5_taskAt_96 : decode cX5_taskAt 96 = .ok (.getfield 190, 3) := by decide +kernel
theorem dX5_taskAt_99 : decode cX5_taskAt 99 = .ok (.ireturn, 1) := by decide +kernel
theorem dX5_taskAt_100 : decode cX5_taskAt 100 = .ok (.aload_n 3, 1) := by decide +kernel
theorem dX5_taskAt_101 : decode cX5_taskAt 101 = .ok (.getfield 193, 3) := by decide +kernel
theorem dX5_taskAt_104 : decode cX5_taskAt 104 = .ok (.ireturn, 1) := by decide +kernel
theorem dX5_taskAt_105 : decode cX5_taskAt 105 = .ok (.aload_n 3, 1) := by decide +kernel
theorem dX5_taskAt_106 : decode cX5_taskAt 106 = .ok (.getfield 196, 3) := by decide +kernel
theorem dX5_taskAt_109 : decode cX5_taskAt 109 = .ok (.ireturn, 1) := by decide +kernel
theorem dX5_taskAt_110 : decode cX5_taskAt 110 = .ok (.aload_n 3, 1) := by decide +kernel
theorem dX5_taskAt_111 : decode cX5_taskAt 111 = .ok (.aload_n 0, 1) := by decide +kernel
theorem dX5_taskAt_112 : decode cX5_taskAt 112 = .ok (.getfield 88, 3) := by decide +kernel
theorem dX5_taskAt_115 : decode cX5_taskAt 115 = .ok (.invokevirtual 91, 3) := by decide +kernel
theorem dX5_taskAt_118 : decode cX5_taskAt 118 = .ok (.ireturn, 1) := by decide +kernel
theorem dX5_taskAt_119 : decode cX5_taskAt 119 = .ok (.aload_n 0, 1) := by decide +kernel
theorem dX5_taskAt_120 : decode cX5_taskAt 120 = .ok (.getfield 10, 3) := by decide +kernel
theorem dX5_taskAt_123 : decode cX5_taskAt 123 = .ok (.invokevirtual 199, 3) := by decide +kernel
theorem dX5_taskAt_126 : decode cX5_taskAt 126 = .ok (.iload_n 1, 1) := by decide +kernel
theorem dX5_taskAt_127 : decode cX5_taskAt 127 = .ok (.invokestatic 202, 3) := by decide +kernel
theorem dX5_taskAt_130 : decode cX5_taskAt 130 = .ok (.invokestatic 205, 3) := by decide +kernel
theorem dX5_taskAt_133 : decode cX5_taskAt 133 = .ok (.ireturn, 1) := by decide +kernel
theorem dX5_taskAt_134 : decode cX5_taskAt 134 = .ok (.aload_n 3, 1) := by decide +kernel
theorem dX5_taskAt_135 : decode cX5_taskAt 135 = .ok (.getfield 209, 3) := by decide +kernel
theorem dX5_taskAt_138 : decode cX5_taskAt 138 = .ok (.ireturn, 1) := by decide +kernel
theorem dX5_taskAt_139 : decode cX5_taskAt 139 = .ok (.aload_n 3, 1) := by decide +kernel
theorem dX5_taskAt_140 : decode cX5_taskAt 140 = .ok (.getfield 212, 3) := by decide +kernel
theorem dX5_taskAt_143 : decode cX5_taskAt 143 = .ok (.ireturn, 1) := by decide +kernel
theorem dX5_taskAt_144 : decode cX5_taskAt 144 = .ok (.bipush (-2), 2) := by decide +kernel
theorem dX5_taskAt_146 : decode cX5_taskAt 146 = .ok (.ireturn, 1) := by decide +kernel
theorem dX5_channelAt_0 : decode cX5_channelAt 0 = .ok (.aload_n 0, 1) := by decide +kernel
theorem dX5_channelAt_1 : decode cX5_channelAt 1 = .ok (.getfield 10, 3) := by decide +kernel
theorem dX5_channelAt_4 : decode cX5_channelAt 4 = .ok (.iload_n 1, 1) := by decide +kernel
theorem dX5_channelAt_5 : decode cX5_channelAt 5 = .ok (.invokevirtual 139, 3) := by decide +kernel
theorem dX5_channelAt_8 : decode cX5_channelAt 8 = .ok (.ifCond .ne 5, 3) := by decide +kernel
theorem dX5_channelAt_11 : decode cX5_channelAt 11 = .ok (.iconst (-1), 1) := by decide +kernel
theorem dX5_channelAt_12 : decode cX5_channelAt 12 = .ok (.ireturn, 1) := by decide +kernel
theorem dX5_channelAt_13 : decode cX5_channelAt 13 = .ok (.aload_n 0, 1) := by decide +kernel
theorem dX5_channelAt_14 : decode cX5_channelAt 14 = .ok (.getfield 10, 3) := by decide +kernel
theorem dX5_channelAt_17 : decode cX5_channelAt 17 = .ok (.getfield 142, 3) := by decide +kernel
theorem dX5_channelAt_20 : decode cX5_channelAt 20 = .ok (.iload_n 1, 1) := by decide +kernel
theorem dX5_channelAt_21 : decode cX5_channelAt 21 = .ok (.aaload, 1) := by decide +kernel
theorem dX5_channelAt_22 : decode cX5_channelAt 22 = .ok (.astore_n 3, 1) := by decide +kernel
theorem dX5_channelAt_23 : decode cX5_channelAt 23 = .ok (.iload_n 2, 1) := by decide +kernel
theorem dX5_channelAt_24 : decode cX5_channelAt 24 = .ok (.tableswitch 114 0 8 #[52, 57, 62, 70, 75, 80, 85, 90, 109], 52) := by decide +kernel
theorem dX5_channelAt_76 : decode cX5_channelAt 76 = .ok (.aload_n 3, 1) := by decide +kernel
theorem dX5_channelAt_77 : decode cX5_channelAt 77 = .ok (.getfield 163, 3) := by decide +kernel
theorem dX5_channelAt_80 : decode cX5_channelAt 80 = .ok (.ireturn, 1) := by decide +kernel
theorem dX5_channelAt_81 : decode cX5_channelAt 81 = .ok (.aload_n 3, 1) := by decide +kernel
theorem dX5_channelAt_82 : decode cX5_channelAt 82 = .ok (.getfield 215, 3) := by decide +kernel
theorem dX5_channelAt_85 : decode cX5_channelAt 85 = .ok (.ireturn, 1) := by decide +kernel
theorem dX5_channelAt_86 : decode cX5_channelAt 86 = .ok (.aload_n 3, 1) := by decide +kernel
theorem dX5_channelAt_87 : decode cX5_channelAt 87 = .ok (.getfield 146, 3) := by decide +kernel
theorem dX5_channelAt_90 : decode cX5_channelAt 90 = .ok (.invokestatic 205, 3) := by decide +kernel
theorem dX5_channelAt_93 : decode cX5_channelAt 93 = .ok (.ireturn, 1) := by decide +kernel
theorem dX5_channelAt_94 : decode cX5_channelAt 94 = .ok (.aload_n 3, 1) := by decide +kernel
theorem dX5_channelAt_95 : decode cX5_channelAt 95 = .ok (.getfield 160, 3) := by decide +kernel
theorem dX5_channelAt_98 : decode cX5_channelAt 98 = .ok (.ireturn, 1) := by decide +kernel
theorem dX5_channelAt_99 : decode cX5_channelAt 99 = .ok (.aload_n 3, 1) := by decide +kernel
theorem dX5_channelAt_100 : decode cX5_channelAt 100 = .ok (.getfield 218, 3) := by decide +kernel
theorem dX5_channelAt_103 : decode cX5_channelAt 103 = .ok (.ireturn, 1) := by decide +kernel
theorem dX5_channelAt_104 : decode cX5_channelAt 104 = .ok (.aload_n 3, 1) := by decide +kernel
theorem dX5_channelAt_105 : decode cX5_channelAt 105 = .ok (.getfield 157, 3) := by decide +kernel
theorem dX5_channelAt_108 : decode cX5_channelAt 108 = .ok (.ireturn, 1) := by decide +kernel
theorem dX5_channelAt_109 : decode cX5_channelAt 109 = .ok (.aload_n 3, 1) := by decide +kernel
theorem dX5_channelAt_110 : decode cX5_channelAt 110 = .ok (.getfield 154, 3) := by decide +kernel
theorem dX5_channelAt_113 : decode cX5_channelAt 113 = .ok (.ireturn, 1) := by decide +kernel
theorem dX5_channelAt_114 : decode cX5_channelAt 114 = .ok (.aload_n 3, 1) := by decide +kernel
theorem dX5_channelAt_115 : decode cX5_channelAt 115 = .ok (.aload_n 3, 1) := by decide +kernel
theorem dX5_channelAt_116 : decode cX5_channelAt 116 = .ok (.getfield 157, 3) := by decide +kernel
theorem dX5_channelAt_119 : decode cX5_channelAt 119 = .ok (.aload_n 0, 1) := by decide +kernel
theorem dX5_channelAt_120 : decode cX5_channelAt 120 = .ok (.getfield 10, 3) := by decide +kernel
theorem dX5_channelAt_123 : decode cX5_channelAt 123 = .ok (.invokevirtual 199, 3) := by decide +kernel
theorem dX5_channelAt_126 : decode cX5_channelAt 126 = .ok (.invokevirtual 221, 3) := by decide +kernel
theorem dX5_channelAt_129 : decode cX5_channelAt 129 = .ok (.invokestatic 205, 3) := by decide +kernel
theorem dX5_channelAt_132 : decode cX5_channelAt 132 = .ok (.ireturn, 1) := by decide +kernel
theorem dX5_channelAt_133 : decode cX5_channelAt 133 = .ok (.aload_n 3, 1) := by decide +kernel
theorem dX5_channelAt_134 : decode cX5_channelAt 134 = .ok (.getfield 224, 3) := by decide +kernel
theorem dX5_channelAt_137 : decode cX5_channelAt 137 = .ok (.ireturn, 1) := by decide +kernel
theorem dX5_channelAt_138 : decode cX5_channelAt 138 = .ok (.bipush (-2), 2) := by decide +kernel
theorem dX5_channelAt_140 : decode cX5_channelAt 140 = .ok (.ireturn, 1) := by decide +kernel
theorem dX5_row_0 : decode cX5_row 0 = .ok (.aload_n 0, 1) := by decide +kernel
theorem dX5_row_1 : decode cX5_row 1 = .ok (.getfield 10, 3) := by decide +kernel
theorem dX5_row_4 : decode cX5_row 4 = .ok (.iload_n 1, 1) := by decide +kernel
theorem dX5_row_5 : decode cX5_row 5 = .ok (.invokevirtual 139, 3) := by decide +kernel
theorem dX5_row_8 : decode cX5_row 8 = .ok (.ifCond .ne 5, 3) := by decide +kernel
theorem dX5_row_11 : decode cX5_row 11 = .ok (.iconst (-1), 1) := by decide +kernel
theorem dX5_row_12 : decode cX5_row 12 = .ok (.ireturn, 1) := by decide +kernel
theorem dX5_row_13 : decode cX5_row 13 = .ok (.aload_n 0, 1) := by decide +kernel
theorem dX5_row_14 : decode cX5_row 14 = .ok (.getfield 10, 3) := by decide +kernel
theorem dX5_row_17 : decode cX5_row 17 = .ok (.getfield 142, 3) := by decide +kernel
theorem dX5_row_20 : decode cX5_row 20 = .ok (.iload_n 1, 1) := by decide +kernel
theorem dX5_row_21 : decode cX5_row 21 = .ok (.aaload, 1) := by decide +kernel
theorem dX5_row_22 : decode cX5_row 22 = .ok (.astore_n 3, 1) := by decide +kernel
theorem dX5_row_23 : decode cX5_row 23 = .ok (.iload_n 2, 1) := by decide +kernel
theorem dX5_row_24 : decode cX5_row 24 = .ok (.ifCond .lt 20, 3) := by decide +kernel
theorem dX5_row_27 : decode cX5_row 27 = .ok (.iload_n 2, 1) := by decide +kernel
theorem dX5_row_28 : decode cX5_row 28 = .ok (.aload_n 3, 1) := by decide +kernel
theorem dX5_row_29 : decode cX5_row 29 = .ok (.getfield 160, 3) := by decide +kernel
theorem dX5_row_32 : decode cX5_row 32 = .ok (.if_icmp .ge 12, 3) := by decide +kernel
theorem dX5_row_35 : decode cX5_row 35 = .ok (.aload_n 3, 1) := by decide +kernel
theorem dX5_row_36 : decode cX5_row 36 = .ok (.getfield 227, 3) := by decide +kernel
theorem dX5_row_39 : decode cX5_row 39 = .ok (.iload_n 2, 1) := by decide +kernel
theorem dX5_row_40 : decode cX5_row 40 = .ok (.iaload, 1) := by decide +kernel
theorem dX5_row_41 : decode cX5_row 41 = .ok (.goto 5, 3) := by decide +kernel
theorem dX5_row_44 : decode cX5_row 44 = .ok (.bipush (-9), 2) := by decide +kernel
theorem dX5_row_46 : decode cX5_row 46 = .ok (.ireturn, 1) := by decide +kernel
theorem dX5_out_0 : decode cX5_out 0 = .ok (.aload_n 0, 1) := by decide +kernel
theorem dX5_out_1 : decode cX5_out 1 = .ok (.getfield 10, 3) := by decide +kernel
theorem dX5_out_4 : decode cX5_out 4 = .ok (.iload_n 1, 1) := by decide +kernel
theorem dX5_out_5 : decode cX5_out 5 = .ok (.invokevirtual 57, 3) := by decide +kernel
theorem dX5_out_8 : decode cX5_out 8 = .ok (.ifCond .ne 5, 3) := by decide +kernel
theorem dX5_out_11 : decode cX5_out 11 = .ok (.iconst (-1), 1) := by decide +kernel
theorem dX5_out_12 : decode cX5_out 12 = .ok (.ireturn, 1) := by decide +kernel
theorem dX5_out_13 : decode cX5_out 13 = .ok (.aload_n 0, 1) := by decide +kernel
theorem dX5_out_14 : decode cX5_out 14 = .ok (.getfield 10, 3) := by decide +kernel
theorem dX5_out_17 : decode cX5_out 17 = .ok (.getfield 60, 3) := by decide +kernel
theorem dX5_out_20 : decode cX5_out 20 = .ok (.iload_n 1, 1) := by decide +kernel
theorem dX5_out_21 : decode cX5_out 21 = .ok (.aaload, 1) := by decide +kernel
theorem dX5_out_22 : decode cX5_out 22 = .ok (.astore_n 3, 1) := by decide +kernel
theorem dX5_out_23 : decode cX5_out 23 = .ok (.iload_n 2, 1) := by decide +kernel
theorem dX5_out_24 : decode cX5_out 24 = .ok (.ifCond .lt 20, 3) := by decide +kernel
theorem dX5_out_27 : decode cX5_out 27 = .ok (.iload_n 2, 1) := by decide +kernel
theorem dX5_out_28 : decode cX5_out 28 = .ok (.aload_n 3, 1) := by decide +kernel
theorem dX5_out_29 : decode cX5_out 29 = .ok (.getfield 209, 3) := by decide +kernel
theorem dX5_out_32 : decode cX5_out 32 = .ok (.if_icmp .ge 12, 3) := by decide +kernel
theorem dX5_out_35 : decode cX5_out 35 = .ok (.aload_n 3, 1) := by decide +kernel
theorem dX5_out_36 : decode cX5_out 36 = .ok (.getfield 231, 3) := by decide +kernel
theorem dX5_out_39 : decode cX5_out 39 = .ok (.iload_n 2, 1) := by decide +kernel
theorem dX5_out_40 : decode cX5_out 40 = .ok (.iaload, 1) := by decide +kernel
theorem dX5_out_41 : decode cX5_out 41 = .ok (.goto 5, 3) := by decide +kernel
theorem dX5_out_44 : decode cX5_out 44 = .ok (.bipush (-9), 2) := by decide +kernel
theorem dX5_out_46 : decode cX5_out 46 = .ok (.ireturn, 1) := by decide +kernel
theorem dX5_aside_0 : decode cX5_aside 0 = .ok (.aload_n 0, 1) := by decide +kernel
theorem dX5_aside_1 : decode cX5_aside 1 = .ok (.getfield 10, 3) := by decide +kernel
theorem dX5_aside_4 : decode cX5_aside 4 = .ok (.iload_n 1, 1) := by decide +kernel
theorem dX5_aside_5 : decode cX5_aside 5 = .ok (.invokevirtual 57, 3) := by decide +kernel
theorem dX5_aside_8 : decode cX5_aside 8 = .ok (.ifCond .ne 5, 3) := by decide +kernel
theorem dX5_aside_11 : decode cX5_aside 11 = .ok (.iconst (-1), 1) := by decide +kernel
theorem dX5_aside_12 : decode cX5_aside 12 = .ok (.ireturn, 1) := by decide +kernel
theorem dX5_aside_13 : decode cX5_aside 13 = .ok (.aload_n 0, 1) := by decide +kernel
theorem dX5_aside_14 : decode cX5_aside 14 = .ok (.getfield 10, 3) := by decide +kernel
theorem dX5_aside_17 : decode cX5_aside 17 = .ok (.getfield 60, 3) := by decide +kernel
theorem dX5_aside_20 : decode cX5_aside 20 = .ok (.iload_n 1, 1) := by decide +kernel
theorem dX5_aside_21 : decode cX5_aside 21 = .ok (.aaload, 1) := by decide +kernel
theorem dX5_aside_22 : decode cX5_aside 22 = .ok (.astore_n 3, 1) := by decide +kernel
theorem dX5_aside_23 : decode cX5_aside 23 = .ok (.iload_n 2, 1) := by decide +kernel
theorem dX5_aside_24 : decode cX5_aside 24 = .ok (.ifCond .lt 20, 3) := by decide +kernel
theorem dX5_aside_27 : decode cX5_aside 27 = .ok (.iload_n 2, 1) := by decide +kernel
theorem dX5_aside_28 : decode cX5_aside 28 = .ok (.aload_n 3, 1) := by decide +kernel
theorem dX5_aside_29 : decode cX5_aside 29 = .ok (.getfield 212, 3) := by decide +kernel
theorem dX5_aside_32 : decode cX5_aside 32 = .ok (.if_icmp .ge 12, 3) := by decide +kernel
theorem dX5_aside_35 : decode cX5_aside 35 = .ok (.aload_n 3, 1) := by decide +kernel
theorem dX5_aside_36 : decode cX5_aside 36 = .ok (.getfield 234, 3) := by decide +kernel
theorem dX5_aside_39 : decode cX5_aside 39 = .ok (.iload_n 2, 1) := by decide +kernel
theorem dX5_aside_40 : decode cX5_aside 40 = .ok (.iaload, 1) := by decide +kernel
theorem dX5_aside_41 : decode cX5_aside 41 = .ok (.goto 5, 3) := by decide +kernel
theorem dX5_aside_44 : decode cX5_aside 44 = .ok (.bipush (-9), 2) := by decide +kernel
theorem dX5_aside_46 : decode cX5_aside 46 = .ok (.ireturn, 1) := by decide +kernel
theorem dX5_cause_0 : decode cX5_cause 0 = .ok (.iload_n 2, 1) := by decide +kernel
theorem dX5_cause_1 : decode cX5_cause 1 = .ok (.ifCond .lt 8, 3) := by decide +kernel
theorem dX5_cause_4 : decode cX5_cause 4 = .ok (.iload_n 2, 1) := by decide +kernel
theorem dX5_cause_5 : decode cX5_cause 5 = .ok (.iconst 2, 1) := by decide +kernel
theorem dX5_cause_6 : decode cX5_cause 6 = .ok (.if_icmp .le 6, 3) := by decide +kernel
theorem dX5_cause_9 : decode cX5_cause 9 = .ok (.bipush (-2), 2) := by decide +kernel
theorem dX5_cause_11 : decode cX5_cause 11 = .ok (.ireturn, 1) := by decide +kernel
theorem dX5_cause_12 : decode cX5_cause 12 = .ok (.iload_n 1, 1) := by decide +kernel
theorem dX5_cause_13 : decode cX5_cause 13 = .ok (.ifCond .lt 14, 3) := by decide +kernel
theorem dX5_cause_16 : decode cX5_cause 16 = .ok (.iload_n 1, 1) := by decide +kernel
theorem dX5_cause_17 : decode cX5_cause 17 = .ok (.aload_n 0, 1) := by decide +kernel
theorem dX5_cause_18 : decode cX5_cause 18 = .ok (.getfield 26, 3) := by decide +kernel
theorem dX5_cause_21 : decode cX5_cause 21 = .ok (.getfield 237, 3) := by decide +kernel
theorem dX5_cause_24 : decode cX5_cause 24 = .ok (.if_icmp .lt 6, 3) := by decide +kernel
theorem dX5_cause_27 : decode cX5_cause 27 = .ok (.bipush (-9), 2) := by decide +kernel
theorem dX5_cause_29 : decode cX5_cause 29 = .ok (.ireturn, 1) := by decide +kernel
theorem dX5_cause_30 : decode cX5_cause 30 = .ok (.iload_n 2, 1) := by decide +kernel
theorem dX5_cause_31 : decode cX5_cause 31 = .ok (.lookupswitch 45 #[(0, 25), (1, 35)], 25) := by decide +kernel
theorem dX5_cause_56 : decode cX5_cause 56 = .ok (.aload_n 0, 1) := by decide +kernel
theorem dX5_cause_57 : decode cX5_cause 57 = .ok (.getfield 26, 3) := by decide +kernel
theorem dX5_cause_60 : decode cX5_cause 60 = .ok (.getfield 238, 3) := by decide +kernel
theorem dX5_cause_63 : decode cX5_cause 63 = .ok (.iload_n 1, 1) := by decide +kernel
theorem dX5_cause_64 : decode cX5_cause 64 = .ok (.iaload, 1) := by decide +kernel
theorem dX5_cause_65 : decode cX5_cause 65 = .ok (.ireturn, 1) := by decide +kernel
theorem dX5_cause_66 : decode cX5_cause 66 = .ok (.aload_n 0, 1) := by decide +kernel
theorem dX5_cause_67 : decode cX5_cause 67 = .ok (.getfield 26, 3) := by decide +kernel
theorem dX5_cause_70 : decode cX5_cause 70 = .ok (.getfield 240, 3) := by decide +kernel
theorem dX5_cause_73 : decode cX5_cause 73 = .ok (.iload_n 1, 1) := by decide +kernel
theorem dX5_cause_74 : decode cX5_cause 74 = .ok (.iaload, 1) := by decide +kernel
theorem dX5_cause_75 : decode cX5_cause 75 = .ok (.ireturn, 1) := by decide +kernel
theorem dX5_cause_76 : decode cX5_cause 76 = .ok (.aload_n 0, 1) := by decide +kernel
theorem dX5_cause_77 : decode cX5_cause 77 = .ok (.getfield 26, 3) := by decide +kernel
theorem dX5_cause_80 : decode cX5_cause 80 = .ok (.getfield 243, 3) := by decide +kernel
theorem dX5_cause_83 : decode cX5_cause 83 = .ok (.iload_n 1, 1) := by decide +kernel
theorem dX5_cause_84 : decode cX5_cause 84 = .ok (.iaload, 1) := by decide +kernel
theorem dX5_cause_85 : decode cX5_cause 85 = .ok (.ireturn, 1) := by decide +kernel
theorem dX5_told_0 : decode cX5_told 0 = .ok (.iload_n 1, 1) := by decide +kernel
theorem dX5_told_1 : decode cX5_told 1 = .ok (.tableswitch 139 0 10 #[59, 67, 75, 80, 85, 90, 98, 106, 118, 129, 134], 59) := by decide +kernel
theorem dX5_told_60 : decode cX5_told 60 = .ok (.aload_n 0, 1) := by decide +kernel
theorem dX5_told_61 : decode cX5_told 61 = .ok (.getfield 10, 3) := by decide +kernel
theorem dX5_told_64 : decode cX5_told 64 = .ok (.getfield 49, 3) := by decide +kernel
theorem dX5_told_67 : decode cX5_told 67 = .ok (.ireturn, 1) := by decide +kernel
theorem dX5_told_68 : decode cX5_told 68 = .ok (.aload_n 0, 1) := by decide +kernel
theorem dX5_told_69 : decode cX5_told 69 = .ok (.getfield 10, 3) := by decide +kernel
theorem dX5_told_72 : decode cX5_told 72 = .ok (.getfield 69, 3) := by decide +kernel
theorem dX5_told_75 : decode cX5_told 75 = .ok (.ireturn, 1) := by decide +kernel
theorem dX5_told_76 : decode cX5_told 76 = .ok (.aload_n 0, 1) := by decide +kernel
theorem dX5_told_77 : decode cX5_told 77 = .ok (.getfield 110, 3) := by decide +kernel
theorem dX5_told_80 : decode cX5_told 80 = .ok (.ireturn, 1) := by decide +kernel
theorem dX5_told_81 : decode cX5_told 81 = .ok (.aload_n 0, 1) := by decide +kernel
theorem dX5_told_82 : decode cX5_told 82 = .ok (.getfield 88, 3) := by decide +kernel
theorem dX5_told_85 : decode cX5_told 85 = .ok (.ireturn, 1) := by decide +kernel
theorem dX5_told_86 : decode cX5_told 86 = .ok (.aload_n 0, 1) := by decide +kernel
theorem dX5_told_87 : decode cX5_told 87 = .ok (.getfield 178, 3) := by decide +kernel
theorem dX5_told_90 : decode cX5_told 90 = .ok (.ireturn, 1) := by decide +kernel
theorem dX5_told_91 : decode cX5_told 91 = .ok (.aload_n 0, 1) := by decide +kernel
theorem dX5_told_92 : decode cX5_told 92 = .ok (.getfield 26, 3) := by decide +kernel
theorem dX5_told_95 : decode cX5_told 95 = .ok (.getfield 237, 3) := by decide +kernel
theorem dX5_told_98 : decode cX5_told 98 = .ok (.ireturn, 1) := by decide +kernel
theorem dX5_told_99 : decode cX5_told 99 = .ok (.aload_n 0, 1) := by decide +kernel
theorem dX5_told_100 : decode cX5_told 100 = .ok (.getfield 85, 3) := by decide +kernel
theorem dX5_told_103 : decode cX5_told 103 = .ok (.invokestatic 205, 3) := by decide +kernel
theorem dX5_told_106 : decode cX5_told 106 = .ok (.ireturn, 1) := by decide +kernel
theorem dX5_told_107 : decode cX5_told 107 = .ok (.aload_n 0, 1) := by decide +kernel
theorem dX5_told_108 : decode cX5_told 108 = .ok (.getfield 10, 3) := by decide +kernel
theorem dX5_told_111 : decode cX5_told 111 = .ok (.aload_n 0, 1) := by decide +kernel
theorem dX5_told_112 : decode cX5_told 112 = .ok (.getfield 88, 3) := by decide +kernel
theorem dX5_told_115 : decode cX5_told 115 = .ok (.invokevirtual 172, 3) := by decide +kernel
theorem dX5_told_118 : decode cX5_told 118 = .ok (.ireturn, 1) := by decide +kernel
theorem dX5_told_119 : decode cX5_told 119 = .ok (.aload_n 0, 1) := by decide +kernel
theorem dX5_told_120 : decode cX5_told 120 = .ok (.getfield 10, 3) := by decide +kernel
theorem dX5_told_123 : decode cX5_told 123 = .ok (.invokevirtual 199, 3) := by decide +kernel
theorem dX5_told_126 : decode cX5_told 126 = .ok (.invokestatic 246, 3) := by decide +kernel
theorem dX5_told_129 : decode cX5_told 129 = .ok (.ireturn, 1) := by decide +kernel
theorem dX5_told_130 : decode cX5_told 130 = .ok (.aload_n 0, 1) := by decide +kernel
theorem dX5_told_131 : decode cX5_told 131 = .ok (.invokevirtual 120, 3) := by decide +kernel
theorem dX5_told_134 : decode cX5_told 134 = .ok (.ireturn, 1) := by decide +kernel
theorem dX5_told_135 : decode cX5_told 135 = .ok (.aload_n 0, 1) := by decide +kernel
theorem dX5_told_136 : decode cX5_told 136 = .ok (.getfield 251, 3) := by decide +kernel
theorem dX5_told_139 : decode cX5_told 139 = .ok (.ireturn, 1) := by decide +kernel
theorem dX5_told_140 : decode cX5_told 140 = .ok (.bipush (-2), 2) := by decide +kernel
theorem dX5_told_142 : decode cX5_told 142 = .ok (.ireturn, 1) := by decide +kernel
theorem dX5_clear_0 : decode cX5_clear 0 = .ok (.aload_n 0, 1) := by decide +kernel
theorem dX5_clear_1 : decode cX5_clear 1 = .ok (.getfield 10, 3) := by decide +kernel
theorem dX5_clear_4 : decode cX5_clear 4 = .ok (.getfield 49, 3) := by decide +kernel
theorem dX5_clear_7 : decode cX5_clear 7 = .ok (.istore_n 1, 1) := by decide +kernel
theorem dX5_clear_8 : decode cX5_clear 8 = .ok (.aload_n 0, 1) := by decide +kernel
theorem dX5_clear_9 : decode cX5_clear 9 = .ok (.invokevirtual 34, 3) := by decide +kernel
theorem dX5_clear_12 : decode cX5_clear 12 = .ok (.iload_n 1, 1) := by decide +kernel
theorem dX5_clear_13 : decode cX5_clear 13 = .ok (.ireturn, 1) := by decide +kernel
theorem dX5_startAnew_0 : decode cX5_startAnew 0 = .ok (.aload_n 0, 1) := by decide +kernel
theorem dX5_startAnew_1 : decode cX5_startAnew 1 = .ok (.getfield 10, 3) := by decide +kernel
theorem dX5_startAnew_4 : decode cX5_startAnew 4 = .ok (.iconst 0, 1) := by decide +kernel
theorem dX5_startAnew_5 : decode cX5_startAnew 5 = .ok (.putfield 49, 3) := by decide +kernel
theorem dX5_startAnew_8 : decode cX5_startAnew 8 = .ok (.aload_n 0, 1) := by decide +kernel
theorem dX5_startAnew_9 : decode cX5_startAnew 9 = .ok (.getfield 10, 3) := by decide +kernel
theorem dX5_startAnew_12 : decode cX5_startAnew 12 = .ok (.iconst 0, 1) := by decide +kernel
theorem dX5_startAnew_13 : decode cX5_startAnew 13 = .ok (.putfield 69, 3) := by decide +kernel
theorem dX5_startAnew_16 : decode cX5_startAnew 16 = .ok (.aload_n 0, 1) := by decide +kernel
theorem dX5_startAnew_17 : decode cX5_startAnew 17 = .ok (.getfield 26, 3) := by decide +kernel
theorem dX5_startAnew_20 : decode cX5_startAnew 20 = .ok (.iconst 0, 1) := by decide +kernel
theorem dX5_startAnew_21 : decode cX5_startAnew 21 = .ok (.putfield 237, 3) := by decide +kernel
theorem dX5_startAnew_24 : decode cX5_startAnew 24 = .ok (.iconst 0, 1) := by decide +kernel
theorem dX5_startAnew_25 : decode cX5_startAnew 25 = .ok (.istore_n 1, 1) := by decide +kernel
theorem dX5_startAnew_26 : decode cX5_startAnew 26 = .ok (.iload_n 1, 1) := by decide +kernel
theorem dX5_startAnew_27 : decode cX5_startAnew 27 = .ok (.iconst 4, 1) := by decide +kernel
theorem dX5_startAnew_28 : decode cX5_startAnew 28 = .ok (.if_icmp .ge 16, 3) := by decide +kernel
theorem dX5_startAnew_31 : decode cX5_startAnew 31 = .ok (.aload_n 0, 1) := by decide +kernel
theorem dX5_startAnew_32 : decode cX5_startAnew 32 = .ok (.getfield 30, 3) := by decide +kernel
theorem dX5_startAnew_35 : decode cX5_startAnew 35 = .ok (.iload_n 1, 1) := by decide +kernel
theorem dX5_startAnew_36 : decode cX5_startAnew 36 = .ok (.iconst 1, 1) := by decide +kernel
theorem dX5_startAnew_37 : decode cX5_startAnew 37 = .ok (.bastore, 1) := by decide +kernel
theorem dX5_startAnew_38 : decode cX5_startAnew 38 = .ok (.iinc 1 1, 3) := by decide +kernel
theorem dX5_startAnew_41 : decode cX5_startAnew 41 = .ok (.goto (-15), 3) := by decide +kernel
theorem dX5_startAnew_44 : decode cX5_startAnew 44 = .ok (.aload_n 0, 1) := by decide +kernel
theorem dX5_startAnew_45 : decode cX5_startAnew 45 = .ok (.iconst 3, 1) := by decide +kernel
theorem dX5_startAnew_46 : decode cX5_startAnew 46 = .ok (.putfield 79, 3) := by decide +kernel
theorem dX5_startAnew_49 : decode cX5_startAnew 49 = .ok (.aload_n 0, 1) := by decide +kernel
theorem dX5_startAnew_50 : decode cX5_startAnew 50 = .ok (.iconst 0, 1) := by decide +kernel
theorem dX5_startAnew_51 : decode cX5_startAnew 51 = .ok (.putfield 82, 3) := by decide +kernel
