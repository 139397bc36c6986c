theorem dX2_roomOf_50 : decode cX2_roomOf 50 = .ok (.if_icmp .ne 20, 3) := by decide +kernel
theorem dX2_roomOf_53 : decode cX2_roomOf 53 = .ok (.iload_n 2, 1) := by decide +kernel
theorem dX2_roomOf_54 : decode cX2_roomOf 54 = .ok (.bipush 64, 2) := by decide +kernel
theorem dX2_roomOf_56 : decode cX2_roomOf 56 = .ok (.aload_n 0, 1) := by decide +kernel
theorem dX2_roomOf_57 : decode cX2_roomOf 57 = .ok (.getfield 19, 3) := by decide +kernel
theorem dX2_roomOf_60 : decode cX2_roomOf 60 = .ok (.iload_n 3, 1) := by decide +kernel
theorem dX2_roomOf_61 : decode cX2_roomOf 61 = .ok (.aaload, 1) := by decide +kernel
theorem dX2_roomOf_62 : decode cX2_roomOf 62 = .ok (.getfield 77, 3) := by decide +kernel
theorem dX2_roomOf_65 : decode cX2_roomOf 65 = .ok (.isub, 1) := by decide +kernel
theorem dX2_roomOf_66 : decode cX2_roomOf 66 = .ok (.invokestatic 80, 3) := by decide +kernel
theorem dX2_roomOf_69 : decode cX2_roomOf 69 = .ok (.istore_n 2, 1) := by decide +kernel
theorem dX2_roomOf_70 : decode cX2_roomOf 70 = .ok (.iinc 3 1, 3) := by decide +kernel
theorem dX2_roomOf_73 : decode cX2_roomOf 73 = .ok (.goto (-41), 3) := by decide +kernel
theorem dX2_roomOf_76 : decode cX2_roomOf 76 = .ok (.iload_n 2, 1) := by decide +kernel
theorem dX2_roomOf_77 : decode cX2_roomOf 77 = .ok (.ireturn, 1) := by decide +kernel
theorem dX2_give_0 : decode cX2_give 0 = .ok (.iconst 0, 1) := by decide +kernel
theorem dX2_give_1 : decode cX2_give 1 = .ok (.istore_n 3, 1) := by decide +kernel
theorem dX2_give_2 : decode cX2_give 2 = .ok (.iload_n 3, 1) := by decide +kernel
theorem dX2_give_3 : decode cX2_give 3 = .ok (.aload_n 0, 1) := by decide +kernel
theorem dX2_give_4 : decode cX2_give 4 = .ok (.getfield 29, 3) := by decide +kernel
theorem dX2_give_7 : decode cX2_give 7 = .ok (.if_icmp .ge 32, 3) := by decide +kernel
theorem dX2_give_10 : decode cX2_give 10 = .ok (.aload_n 0, 1) := by decide +kernel
theorem dX2_give_11 : decode cX2_give 11 = .ok (.getfield 19, 3) := by decide +kernel
theorem dX2_give_14 : decode cX2_give 14 = .ok (.iload_n 3, 1) := by decide +kernel
theorem dX2_give_15 : decode cX2_give 15 = .ok (.aaload, 1) := by decide +kernel
theorem dX2_give_16 : decode cX2_give 16 = .ok (.getfield 74, 3) := by decide +kernel
theorem dX2_give_19 : decode cX2_give 19 = .ok (.iload_n 1, 1) := by decide +kernel
theorem dX2_give_20 : decode cX2_give 20 = .ok (.if_icmp .ne 13, 3) := by decide +kernel
theorem dX2_give_23 : decode cX2_give 23 = .ok (.aload_n 0, 1) := by decide +kernel
theorem dX2_give_24 : decode cX2_give 24 = .ok (.getfield 19, 3) := by decide +kernel
theorem dX2_give_27 : decode cX2_give 27 = .ok (.iload_n 3, 1) := by decide +kernel
theorem dX2_give_28 : decode cX2_give 28 = .ok (.aaload, 1) := by decide +kernel
theorem dX2_give_29 : decode cX2_give 29 = .ok (.iload_n 2, 1) := by decide +kernel
theorem dX2_give_30 : decode cX2_give 30 = .ok (.invokevirtual 86, 3) := by decide +kernel
theorem dX2_give_33 : decode cX2_give 33 = .ok (.iinc 3 1, 3) := by decide +kernel
theorem dX2_give_36 : decode cX2_give 36 = .ok (.goto (-34), 3) := by decide +kernel
theorem dX2_give_39 : decode cX2_give 39 = .ok (.return_, 1) := by decide +kernel
theorem dX2_loseAllFrom_0 : decode cX2_loseAllFrom 0 = .ok (.iconst 0, 1) := by decide +kernel
theorem dX2_loseAllFrom_1 : decode cX2_loseAllFrom 1 = .ok (.istore_n 2, 1) := by decide +kernel
theorem dX2_loseAllFrom_2 : decode cX2_loseAllFrom 2 = .ok (.iload_n 2, 1) := by decide +kernel
theorem dX2_loseAllFrom_3 : decode cX2_loseAllFrom 3 = .ok (.aload_n 0, 1) := by decide +kernel
theorem dX2_loseAllFrom_4 : decode cX2_loseAllFrom 4 = .ok (.getfield 29, 3) := by decide +kernel
theorem dX2_loseAllFrom_7 : decode cX2_loseAllFrom 7 = .ok (.if_icmp .ge 46, 3) := by decide +kernel
theorem dX2_loseAllFrom_10 : decode cX2_loseAllFrom 10 = .ok (.aload_n 0, 1) := by decide +kernel
theorem dX2_loseAllFrom_11 : decode cX2_loseAllFrom 11 = .ok (.getfield 19, 3) := by decide +kernel
theorem dX2_loseAllFrom_14 : decode cX2_loseAllFrom 14 = .ok (.iload_n 2, 1) := by decide +kernel
theorem dX2_loseAllFrom_15 : decode cX2_loseAllFrom 15 = .ok (.aaload, 1) := by decide +kernel
theorem dX2_loseAllFrom_16 : decode cX2_loseAllFrom 16 = .ok (.getfield 90, 3) := by decide +kernel
theorem dX2_loseAllFrom_19 : decode cX2_loseAllFrom 19 = .ok (.ifCond .eq 28, 3) := by decide +kernel
theorem dX2_loseAllFrom_22 : decode cX2_loseAllFrom 22 = .ok (.iload_n 1, 1) := by decide +kernel
theorem dX2_loseAllFrom_23 : decode cX2_loseAllFrom 23 = .ok (.aload_n 0, 1) := by decide +kernel
theorem dX2_loseAllFrom_24 : decode cX2_loseAllFrom 24 = .ok (.getfield 19, 3) := by decide +kernel
theorem dX2_loseAllFrom_27 : decode cX2_loseAllFrom 27 = .ok (.iload_n 2, 1) := by decide +kernel
theorem dX2_loseAllFrom_28 : decode cX2_loseAllFrom 28 = .ok (.aaload, 1) := by decide +kernel
theorem dX2_loseAllFrom_29 : decode cX2_loseAllFrom 29 = .ok (.getfield 74, 3) := by decide +kernel
theorem dX2_loseAllFrom_32 : decode cX2_loseAllFrom 32 = .ok (.invokestatic 94, 3) := by decide +kernel
theorem dX2_loseAllFrom_35 : decode cX2_loseAllFrom 35 = .ok (.ifCond .eq 12, 3) := by decide +kernel
theorem dX2_loseAllFrom_38 : decode cX2_loseAllFrom 38 = .ok (.aload_n 0, 1) := by decide +kernel
theorem dX2_loseAllFrom_39 : decode cX2_loseAllFrom 39 = .ok (.getfield 19, 3) := by decide +kernel
theorem dX2_loseAllFrom_42 : decode cX2_loseAllFrom 42 = .ok (.iload_n 2, 1) := by decide +kernel
theorem dX2_loseAllFrom_43 : decode cX2_loseAllFrom 43 = .ok (.aaload, 1) := by decide +kernel
theorem dX2_loseAllFrom_44 : decode cX2_loseAllFrom 44 = .ok (.invokevirtual 97, 3) := by decide +kernel
theorem dX2_loseAllFrom_47 : decode cX2_loseAllFrom 47 = .ok (.iinc 2 1, 3) := by decide +kernel
theorem dX2_loseAllFrom_50 : decode cX2_loseAllFrom 50 = .ok (.goto (-48), 3) := by decide +kernel
theorem dX2_loseAllFrom_53 : decode cX2_loseAllFrom 53 = .ok (.return_, 1) := by decide +kernel
theorem dX2_keepAsMark_0 : decode cX2_keepAsMark 0 = .ok (.iconst 0, 1) := by decide +kernel
theorem dX2_keepAsMark_1 : decode cX2_keepAsMark 1 = .ok (.istore_n 1, 1) := by decide +kernel
theorem dX2_keepAsMark_2 : decode cX2_keepAsMark 2 = .ok (.iload_n 1, 1) := by decide +kernel
theorem dX2_keepAsMark_3 : decode cX2_keepAsMark 3 = .ok (.aload_n 0, 1) := by decide +kernel
theorem dX2_keepAsMark_4 : decode cX2_keepAsMark 4 = .ok (.getfield 25, 3) := by decide +kernel
theorem dX2_keepAsMark_7 : decode cX2_keepAsMark 7 = .ok (.if_icmp .ge 18, 3) := by decide +kernel
theorem dX2_keepAsMark_10 : decode cX2_keepAsMark 10 = .ok (.aload_n 0, 1) := by decide +kernel
theorem dX2_keepAsMark_11 : decode cX2_keepAsMark 11 = .ok (.getfield 11, 3) := by decide +kernel
theorem dX2_keepAsMark_14 : decode cX2_keepAsMark 14 = .ok (.iload_n 1, 1) := by decide +kernel
theorem dX2_keepAsMark_15 : decode cX2_keepAsMark 15 = .ok (.aaload, 1) := by decide +kernel
theorem dX2_keepAsMark_16 : decode cX2_keepAsMark 16 = .ok (.invokevirtual 100, 3) := by decide +kernel
theorem dX2_keepAsMark_19 : decode cX2_keepAsMark 19 = .ok (.iinc 1 1, 3) := by decide +kernel
theorem dX2_keepAsMark_22 : decode cX2_keepAsMark 22 = .ok (.goto (-20), 3) := by decide +kernel
theorem dX2_keepAsMark_25 : decode cX2_keepAsMark 25 = .ok (.iconst 0, 1) := by decide +kernel
theorem dX2_keepAsMark_26 : decode cX2_keepAsMark 26 = .ok (.istore_n 1, 1) := by decide +kernel
theorem dX2_keepAsMark_27 : decode cX2_keepAsMark 27 = .ok (.iload_n 1, 1) := by decide +kernel
theorem dX2_keepAsMark_28 : decode cX2_keepAsMark 28 = .ok (.aload_n 0, 1) := by decide +kernel
theorem dX2_keepAsMark_29 : decode cX2_keepAsMark 29 = .ok (.getfield 29, 3) := by decide +kernel
theorem dX2_keepAsMark_32 : decode cX2_keepAsMark 32 = .ok (.if_icmp .ge 18, 3) := by decide +kernel
theorem dX2_keepAsMark_35 : decode cX2_keepAsMark 35 = .ok (.aload_n 0, 1) := by decide +kernel
theorem dX2_keepAsMark_36 : decode cX2_keepAsMark 36 = .ok (.getfield 19, 3) := by decide +kernel
theorem dX2_keepAsMark_39 : decode cX2_keepAsMark 39 = .ok (.iload_n 1, 1) := by decide +kernel
theorem dX2_keepAsMark_40 : decode cX2_keepAsMark 40 = .ok (.aaload, 1) := by decide +kernel
theorem dX2_keepAsMark_41 : decode cX2_keepAsMark 41 = .ok (.invokevirtual 103, 3) := by decide +kernel
theorem dX2_keepAsMark_44 : decode cX2_keepAsMark 44 = .ok (.iinc 1 1, 3) := by decide +kernel
theorem dX2_keepAsMark_47 : decode cX2_keepAsMark 47 = .ok (.goto (-20), 3) := by decide +kernel
theorem dX2_keepAsMark_50 : decode cX2_keepAsMark 50 = .ok (.return_, 1) := by decide +kernel
theorem dX2_regionOf_0 : decode cX2_regionOf 0 = .ok (.iload_n 1, 1) := by decide +kernel
theorem dX2_regionOf_1 : decode cX2_regionOf 1 = .ok (.istore_n 2, 1) := by decide +kernel
theorem dX2_regionOf_2 : decode cX2_regionOf 2 = .ok (.iconst 0, 1) := by decide +kernel
theorem dX2_regionOf_3 : decode cX2_regionOf 3 = .ok (.istore_n 3, 1) := by decide +kernel
theorem dX2_regionOf_4 : decode cX2_regionOf 4 = .ok (.iload_n 3, 1) := by decide +kernel
theorem dX2_regionOf_5 : decode cX2_regionOf 5 = .ok (.bipush 16, 2) := by decide +kernel
theorem dX2_regionOf_7 : decode cX2_regionOf 7 = .ok (.if_icmp .ge 27, 3) := by decide +kernel
theorem dX2_regionOf_10 : decode cX2_regionOf 10 = .ok (.aload_n 0, 1) := by decide +kernel
theorem dX2_regionOf_11 : decode cX2_regionOf 11 = .ok (.iload_n 2, 1) := by decide +kernel
theorem dX2_regionOf_12 : decode cX2_regionOf 12 = .ok (.invokevirtual 104, 3) := by decide +kernel
theorem dX2_regionOf_15 : decode cX2_regionOf 15 = .ok (.istore 4, 2) := by decide +kernel
theorem dX2_regionOf_17 : decode cX2_regionOf 17 = .ok (.iload 4, 2) := by decide +kernel
theorem dX2_regionOf_19 : decode cX2_regionOf 19 = .ok (.iload_n 2, 1) := by decide +kernel
theorem dX2_regionOf_20 : decode cX2_regionOf 20 = .ok (.if_icmp .ne 5, 3) := by decide +kernel
theorem dX2_regionOf_23 : decode cX2_regionOf 23 = .ok (.iload_n 2, 1) := by decide +kernel
theorem dX2_regionOf_24 : decode cX2_regionOf 24 = .ok (.ireturn, 1) := by decide +kernel
theorem dX2_regionOf_25 : decode cX2_regionOf 25 = .ok (.iload 4, 2) := by decide +kernel
theorem dX2_regionOf_27 : decode cX2_regionOf 27 = .ok (.istore_n 2, 1) := by decide +kernel
theorem dX2_regionOf_28 : decode cX2_regionOf 28 = .ok (.iinc 3 1, 3) := by decide +kernel
theorem dX2_regionOf_31 : decode cX2_regionOf 31 = .ok (.goto (-27), 3) := by decide +kernel
theorem dX2_regionOf_34 : decode cX2_regionOf 34 = .ok (.iload_n 2, 1) := by decide +kernel
theorem dX2_regionOf_35 : decode cX2_regionOf 35 = .ok (.ireturn, 1) := by decide +kernel
theorem dX2_widened_0 : decode cX2_widened 0 = .ok (.aload_n 0, 1) := by decide +kernel
theorem dX2_widened_1 : decode cX2_widened 1 = .ok (.iload_n 1, 1) := by decide +kernel
theorem dX2_widened_2 : decode cX2_widened 2 = .ok (.invokevirtual 107, 3) := by decide +kernel
theorem dX2_widened_5 : decode cX2_widened 5 = .ok (.istore_n 2, 1) := by decide +kernel
theorem dX2_widened_6 : decode cX2_widened 6 = .ok (.iload_n 1, 1) := by decide +kernel
theorem dX2_widened_7 : decode cX2_widened 7 = .ok (.istore_n 3, 1) := by decide +kernel
theorem dX2_widened_8 : decode cX2_widened 8 = .ok (.iconst 0, 1) := by decide +kernel
theorem dX2_widened_9 : decode cX2_widened 9 = .ok (.istore 4, 2) := by decide +kernel
theorem dX2_widened_11 : decode cX2_widened 11 = .ok (.iload 4, 2) := by decide +kernel
theorem dX2_widened_13 : decode cX2_widened 13 = .ok (.aload_n 0, 1) := by decide +kernel
theorem dX2_widened_14 : decode cX2_widened 14 = .ok (.getfield 29, 3) := by decide +kernel
theorem dX2_widened_17 : decode cX2_widened 17 = .ok (.if_icmp .ge 123, 3) := by decide +kernel
theorem dX2_widened_20 : decode cX2_widened 20 = .ok (.aload_n 0, 1) := by decide +kernel
theorem dX2_widened_21 : decode cX2_widened 21 = .ok (.getfield 19, 3) := by decide +kernel
theorem dX2_widened_24 : decode cX2_widened 24 = .ok (.iload 4, 2) := by decide +kernel
theorem dX2_widened_26 : decode cX2_widened 26 = .ok (.aaload, 1) := by decide +kernel
theorem dX2_widened_27 : decode cX2_widened 27 = .ok (.astore 5, 2) := by decide +kernel
theorem dX2_widened_29 : decode cX2_widened 29 = .ok (.iload_n 2, 1) := by decide +kernel
theorem dX2_widened_30 : decode cX2_widened 30 = .ok (.aload 5, 2) := by decide +kernel
theorem dX2_widened_32 : decode cX2_widened 32 = .ok (.getfield 74, 3) := by decide +kernel
theorem dX2_widened_35 : decode cX2_widened 35 = .ok (.invokestatic 94, 3) := by decide +kernel
theorem dX2_widened_38 : decode cX2_widened 38 = .ok (.ifCond .eq 20, 3) := by decide +kernel
theorem dX2_widened_41 : decode cX2_widened 41 = .ok (.aload 5, 2) := by decide +kernel
theorem dX2_widened_43 : decode cX2_widened 43 = .ok (.getfield 110, 3) := by decide +kernel
theorem dX2_widened_46 : decode cX2_widened 46 = .ok (.aload 5, 2) := by decide +kernel
theorem dX2_widened_48 : decode cX2_widened 48 = .ok (.invokevirtual 113, 3) := by decide +kernel
theorem dX2_widened_51 : decode cX2_widened 51 = .ok (.if_icmp .le 7, 3) := by decide +kernel
theorem dX2_widened_54 : decode cX2_widened 54 = .ok (.iconst 1, 1) := by decide +kernel
theorem dX2_widened_55 : decode cX2_widened 55 = .ok (.goto 4, 3) := by decide +kernel
theorem dX2_widened_58 : decode cX2_widened 58 = .ok (.iconst 0, 1) := by decide +kernel
theorem dX2_widened_59 : decode cX2_widened 59 = .ok (.istore 6, 2) := by decide +kernel
theorem dX2_widened_61 : decode cX2_widened 61 = .ok (.iload_n 1, 1) := by decide +kernel
theorem dX2_widened_62 : decode cX2_widened 62 = .ok (.aload 5, 2) := by decide +kernel
theorem dX2_widened_64 : decode cX2_widened 64 = .ok (.getfield 74, 3) := by decide +kernel
theorem dX2_widened_67 : decode cX2_widened 67 = .ok (.invokestatic 94, 3) := by decide +kernel
theorem dX2_widened_70 : decode cX2_widened 70 = .ok (.ifCond .eq 26, 3) := by decide +kernel
theorem dX2_widened_73 : decode cX2_widened 73 = .ok (.aload 5, 2) := by decide +kernel
theorem dX2_widened_75 : decode cX2_widened 75 = .ok (.getfield 90, 3) := by decide +kernel
theorem dX2_widened_78 : decode cX2_widened 78 = .ok (.ifCond .eq 8, 3) := by decide +kernel
theorem dX2_widened_81 : decode cX2_widened 81 = .ok (.iload 6, 2) := by decide +kernel
theorem dX2_widened_83 : decode cX2_widened 83 = .ok (.ifCond .eq 13, 3) := by decide +kernel
theorem dX2_widened_86 : decode cX2_widened 86 = .ok (.iload_n 3, 1) := by decide +kernel
theorem dX2_widened_87 : decode cX2_widened 87 = .ok (.iconst 1, 1) := by decide +kernel
theorem dX2_widened_88 : decode cX2_widened 88 = .ok (.aload 5, 2) := by decide +kernel
theorem dX2_widened_90 : decode cX2_widened 90 = .ok (.getfield 62, 3) := by decide +kernel
theorem dX2_widened_93 : decode cX2_widened 93 = .ok (.ishl, 1) := by decide +kernel
theorem dX2_widened_94 : decode cX2_widened 94 = .ok (.ior, 1) := by decide +kernel
theorem dX2_widened_95 : decode cX2_widened 95 = .ok (.istore_n 3, 1) := by decide +kernel
theorem dX2_widened_96 : decode cX2_widened 96 = .ok (.iload_n 1, 1) := by decide +kernel
theorem dX2_widened_97 : decode cX2_widened 97 = .ok (.aload 5, 2) := by decide +kernel
theorem dX2_widened_99 : decode cX2_widened 99 = .ok (.getfield 62, 3) := by decide +kernel
theorem dX2_widened_102 : decode cX2_widened 102 = .ok (.invokestatic 94, 3) := by decide +kernel
theorem dX2_widened_105 : decode cX2_widened 105 = .ok (.ifCond .eq 29, 3) := by decide +kernel
theorem dX2_widened_108 : decode cX2_widened 108 = .ok (.aload 5, 2) := by decide +kernel
theorem dX2_widened_110 : decode cX2_widened 110 = .ok (.getfield 90, 3) := by decide +kernel
theorem dX2_widened_113 : decode cX2_widened 113 = .ok (.ifCond .eq 11, 3) := by decide +kernel
theorem dX2_widened_116 : decode cX2_widened 116 = .ok (.aload 5, 2) := by decide +kernel
theorem dX2_widened_118 : decode cX2_widened 118 = .ok (.getfield 117, 3) := by decide +kernel
theorem dX2_widened_121 : decode cX2_widened 121 = .ok (.ifCond .le 13, 3) := by decide +kernel
theorem dX2_widened_124 : decode cX2_widened 124 = .ok (.iload_n 3, 1) := by decide +kernel
theorem dX2_widened_125 : decode cX2_widened 125 = .ok (.iconst 1, 1) := by decide +kernel
theorem dX2_widened_126 : decode cX2_widened 126 = .ok (.aload 5, 2) := by decide +kernel
theorem dX2_widened_128 : decode cX2_widened 128 = .ok (.getfield 74, 3) := by decide +kernel
theorem dX2_widened_131 : decode cX2_widened 131 = .ok (.ishl, 1) := by decide +kernel
theorem dX2_widened_132 : decode cX2_widened 132 = .ok (.ior, 1) := by decide +kernel
theorem dX2_widened_133 : decode cX2_widened 133 = .ok (.istore_n 3, 1) := by decide +kernel
theorem dX2_widened_134 : decode cX2_widened 134 = .ok (.iinc 4 1, 3) := by decide +kernel
theorem dX2_widened_137 : decode cX2_widened 137 = .ok (.goto (-126), 3) := by decide +kernel
theorem dX2_widened_140 : decode cX2_widened 140 = .ok (.iload_n 3, 1) := by decide +kernel
theorem dX2_widened_141 : decode cX2_widened 141 = .ok (.ireturn, 1) := by decide +kernel
theorem dX2_unsteadyIn_0 : decode cX2_unsteadyIn 0 = .ok (.iconst 0, 1) := by decide +kernel
theorem dX2_unsteadyIn_1 : decode cX2_unsteadyIn 1 = .ok (.istore_n 2, 1) := by decide +kernel
theorem dX2_unsteadyIn_2 : decode cX2_unsteadyIn 2 = .ok (.iconst 0, 1) := by decide +kernel
theorem dX2_unsteadyIn_3 : decode cX2_unsteadyIn 3 = .ok (.istore_n 3, 1) := by decide +kernel
theorem dX2_unsteadyIn_4 : decode cX2_unsteadyIn 4 = .ok (.iload_n 3, 1) := by decide +kernel
theorem dX2_unsteadyIn_5 : decode cX2_unsteadyIn 5 = .ok (.aload_n 0, 1) := by decide +kernel
theorem dX2_unsteadyIn_6 : decode cX2_unsteadyIn 6 = .ok (.getfield 25, 3) := by decide +kernel
theorem dX2_unsteadyIn_9 : decode cX2_unsteadyIn 9 = .ok (.if_icmp .ge 50, 3) := by decide +kernel
theorem dX2_unsteadyIn_12 : decode cX2_unsteadyIn 12 = .ok (.iload_n 1, 1) := by decide +kernel
theorem dX2_unsteadyIn_13 : decode cX2_unsteadyIn 13 = .ok (.iload_n 3, 1) := by decide +kernel
theorem dX2_unsteadyIn_14 : decode cX2_unsteadyIn 14 = .ok (.invokestatic 94, 3) := by decide +kernel
theorem dX2_unsteadyIn_17 : decode cX2_unsteadyIn 17 = .ok (.ifCond .eq 36, 3) := by decide +kernel
theorem dX2_unsteadyIn_20 : decode cX2_unsteadyIn 20 = .ok (.aload_n 0, 1) := by decide +kernel
theorem dX2_unsteadyIn_21 : decode cX2_unsteadyIn 21 = .ok (.getfield 11, 3) := by decide +kernel
theorem dX2_unsteadyIn_24 : decode cX2_unsteadyIn 24 = .ok (.iload_n 3, 1) := by decide +kernel
theorem dX2_unsteadyIn_25 : decode cX2_unsteadyIn 25 = .ok (.aaload, 1) := by decide +kernel
theorem dX2_unsteadyIn_26 : decode cX2_unsteadyIn 26 = .ok (.getfield 53, 3) := by decide +kernel
theorem dX2_unsteadyIn_29 : decode cX2_unsteadyIn 29 = .ok (.iconst 4, 1) := by decide +kernel
theorem dX2_unsteadyIn_30 : decode cX2_unsteadyIn 30 = .ok (.if_icmp .eq 17, 3) := by decide +kernel
theorem dX2_unsteadyIn_33 : decode cX2_unsteadyIn 33 = .ok (.aload_n 0, 1) := by decide +kernel
theorem dX2_unsteadyIn_34 : decode cX2_unsteadyIn 34 = .ok (.getfield 11, 3) := by decide +kernel
theorem dX2_unsteadyIn_37 : decode cX2_unsteadyIn 37 = .ok (.iload_n 3, 1) := by decide +kernel
theorem dX2_unsteadyIn_38 : decode cX2_unsteadyIn 38 = .ok (.aaload, 1) := by decide +kernel
theorem dX2_unsteadyIn_39 : decode cX2_unsteadyIn 39 = .ok (.getfield 39, 3) := by decide +kernel
theorem dX2_unsteadyIn_42 : decode cX2_unsteadyIn 42 = .ok (.iload_n 2, 1) := by decide +kernel
theorem dX2_unsteadyIn_43 : decode cX2_unsteadyIn 43 = .ok (.iand, 1) := by decide +kernel
theorem dX2_unsteadyIn_44 : decode cX2_unsteadyIn 44 = .ok (.ifCond .eq 9, 3) := by decide +kernel
theorem dX2_unsteadyIn_47 : decode cX2_unsteadyIn 47 = .ok (.iload_n 2, 1) := by decide +kernel
theorem dX2_unsteadyIn_48 : decode cX2_unsteadyIn 48 = .ok (.iconst 1, 1) := by decide +kernel
theorem dX2_unsteadyIn_49 : decode cX2_unsteadyIn 49 = .ok (.iload_n 3, 1) := by decide +kernel
theorem dX2_unsteadyIn_50 : decode cX2_unsteadyIn 50 = .ok (.ishl, 1) := by decide +kernel
theorem dX2_unsteadyIn_51 : decode cX2_unsteadyIn 51 = .ok (.ior, 1) := by decide +kernel
theorem dX2_unsteadyIn_52 : decode cX2_unsteadyIn 52 = .ok (.istore_n 2, 1) := by decide +kernel
theorem dX2_unsteadyIn_53 : decode cX2_unsteadyIn 53 = .ok (.iinc 3 1, 3) := by decide +kernel
theorem dX2_unsteadyIn_56 : decode cX2_unsteadyIn 56 = .ok (.goto (-52), 3) := by decide +kernel
theorem dX2_unsteadyIn_59 : decode cX2_unsteadyIn 59 = .ok (.iload_n 2, 1) := by decide +kernel
theorem dX2_unsteadyIn_60 : decode cX2_unsteadyIn 60 = .ok (.ireturn, 1) := by decide +kernel
theorem dX2_rewind_0 : decode cX2_rewind 0 = .ok (.aload_n 0, 1) := by decide +kernel
theorem dX2_rewind_1 : decode cX2_rewind 1 = .ok (.iload_n 1, 1) := by decide +kernel
theorem dX2_rewind_2 : decode cX2_rewind 2 = .ok (.invokevirtual 107, 3) := by decide +kernel
theorem dX2_rewind_5 : decode cX2_rewind 5 = .ok (.istore_n 3, 1) := by decide +kernel
theorem dX2_rewind_6 : decode cX2_rewind 6 = .ok (.iconst 0, 1) := by decide +kernel
theorem dX2_rewind_7 : decode cX2_rewind 7 = .ok (.istore 4, 2) := by decide +kernel
theorem dX2_rewind_9 : decode cX2_rewind 9 = .ok (.iload 4, 2) := by decide +kernel
theorem dX2_rewind_11 : decode cX2_rewind 11 = .ok (.aload_n 0, 1) := by decide +kernel
theorem dX2_rewind_12 : decode cX2_rewind 12 = .ok (.getfield 25, 3) := by decide +kernel
theorem dX2_rewind_15 : decode cX2_rewind 15 = .ok (.if_icmp .ge 29, 3) := by decide +kernel
theorem dX2_rewind_18 : decode cX2_rewind 18 = .ok (.iload_n 1, 1) := by decide +kernel
theorem dX2_rewind_19 : decode cX2_rewind 19 = .ok (.iload 4, 2) := by decide +kernel
theorem dX2_rewind_21 : decode cX2_rewind 21 = .ok (.invokestatic 94, 3) := by decide +kernel
theorem dX2_rewind_24 : decode cX2_rewind 24 = .ok (.ifCond .eq 14, 3) := by decide +kernel
theorem dX2_rewind_27 : decode cX2_rewind 27 = .ok (.aload_n 0, 1) := by decide +kernel
theorem dX2_rewind_28 : decode cX2_rewind 28 = .ok (.getfield 11, 3) := by decide +kernel
theorem dX2_rewind_31 : decode cX2_rewind 31 = .ok (.iload 4, 2) := by decide +kernel
theorem dX2_rewind_33 : decode cX2_rewind 33 = .ok (.aaload, 1) := by decide +kernel
theorem dX2_rewind_34 : decode cX2_rewind 34 = .ok (.iload_n 2, 1) := by decide +kernel
theorem dX2_rewind_35 : decode cX2_rewind 35 = .ok (.invokevirtual 120, 3) := by decide +kernel
theorem dX2_rewind_38 : decode cX2_rewind 38 = .ok (.iinc 4 1, 3) := by decide +kernel
theorem dX2_rewind_41 : decode cX2_rewind 41 = .ok (.goto (-32), 3) := by decide +kernel
theorem dX2_rewind_44 : decode cX2_rewind 44 = .ok (.iconst 0, 1) := by decide +kernel
theorem dX2_rewind_45 : decode cX2_rewind 45 = .ok (.istore 4, 2) := by decide +kernel
theorem dX2_rewind_47 : decode cX2_rewind 47 = .ok (.iload 4, 2) := by decide +kernel
theorem dX2_rewind_49 : decode cX2_rewind 49 = .ok (.aload_n 0, 1) := by decide +kernel
theorem dX2_rewind_50 : decode cX2_rewind 50 = .ok (.getfield 29, 3) := by decide +kernel
theorem dX2_rewind_53 : decode cX2_rewind 53 = .ok (.if_icmp .ge 61, 3) := by decide +kernel
theorem dX2_rewind_56 : decode cX2_rewind 56 = .ok (.aload_n 0, 1) := by decide +kernel
theorem dX2_rewind_57 : decode cX2_rewind 57 = .ok (.getfield 19, 3) := by decide +kernel
theorem dX2_rewind_60 : decode cX2_rewind 60 = .ok (.iload 4, 2) := by decide +kernel
theorem dX2_rewind_62 : decode cX2_rewind 62 = .ok (.aaload, 1) := by decide +kernel
theorem dX2_rewind_63 : decode cX2_rewind 63 = .ok (.astore 5, 2) := by decide +kernel
theorem dX2_rewind_65 : decode cX2_rewind 65 = .ok (.iload_n 1, 1) := by decide +kernel
theorem dX2_rewind_66 : decode cX2_rewind 66 = .ok (.aload 5, 2) := by decide +kernel
theorem dX2_rewind_68 : decode cX2_rewind 68 = .ok (.getfield 62, 3) := by decide +kernel
theorem dX2_rewind_71 : decode cX2_rewind 71 = .ok (.invokestatic 94, 3) := by decide +kernel
theorem dX2_rewind_74 : decode cX2_rewind 74 = .ok (.ifCond .eq 8, 3) := by decide +kernel
theorem dX2_rewind_77 : decode cX2_rewind 77 = .ok (.aload 5, 2) := by decide +kernel
theorem dX2_rewind_79 : decode cX2_rewind 79 = .ok (.invokevirtual 123, 3) := by decide +kernel
theorem dX2_rewind_82 : decode cX2_rewind 82 = .ok (.iload_n 1, 1) := by decide +kernel
theorem dX2_rewind_83 : decode cX2_rewind 83 = .ok (.aload 5, 2) := by decide +kernel
theorem dX2_rewind_85 : decode cX2_rewind 85 = .ok (.getfield 74, 3) := by decide +kernel
theorem dX2_rewind_88 : decode cX2_rewind 88 = .ok (.invokestatic 94, 3) := by decide +kernel
theorem dX2_rewind_91 : decode cX2_rewind 91 = .ok (.ifCond .eq 17, 3) := by decide +kernel
theorem dX2_rewind_94 : decode cX2_rewind 94 = .ok (.aload 5, 2) := by decide +kernel
theorem dX2_rewind_96 : decode cX2_rewind 96 = .ok (.iload_n 3, 1) := by decide +kernel
theorem dX2_rewind_97 : decode cX2_rewind 97 = .ok (.aload 5, 2) := by decide +kernel
theorem dX2_rewind_99 : decode cX2_rewind 99 = .ok (.getfield 74, 3) := by decide +kernel
theorem dX2_rewind_102 : decode cX2_rewind 102 = .ok (.invokestatic 94, 3) := by decide +kernel
theorem dX2_rewind_105 : decode cX2_rewind 105 = .ok (.invokevirtual 126, 3) := by decide +kernel
theorem dX2_rewind_108 : decode cX2_rewind 108 = .ok (.iinc 4 1, 3) := by decide +kernel
theorem dX2_rewind_111 : decode cX2_rewind 111 = .ok (.goto (-64), 3) := by decide +kernel
theorem dX2_rewind_114 : decode cX2_rewind 114 = .ok (.return_, 1) := by decide +kernel
theorem dX3_init_0 : decode cX3_init 0 = .ok (.aload_n 0, 1) := by decide +kernel
theorem dX3_init_1 : decode cX3_init 1 = .ok (.invokespecial 3, 3) := by decide +kernel
theorem dX3_init_4 : decode cX3_init 4 = .ok (.aload_n 0, 1) := by decide +kernel
theorem dX3_init_5 : decode cX3_init 5 = .ok (.bipush 8, 2) := by decide +kernel
theorem dX3_init_7 : decode cX3_init 7 = .ok (.newarray .int, 2) := by decide +kernel
theorem dX3_init_9 : decode cX3_init 9 = .ok (.putfield 9, 3) := by decide +kernel
theorem dX3_init_12 : decode cX3_init 12 = .ok (.aload_n 0, 1) := by decide +kernel
theorem dX3_init_13 : decode cX3_init 13 = .ok (.bipush 8, 2) := by decide +kernel
theorem dX3_init_15 : decode cX3_init 15 = .ok (.newarray .int, 2) := by decide +kernel
theorem dX3_init_17 : decode cX3_init 17 = .ok (.putfield 15, 3) := by decide +kernel
theorem dX3_init_20 : decode cX3_init 20 = .ok (.return_, 1) := by decide +kernel
theorem dX3_fill_0 : decode cX3_fill 0 = .ok (.aload_n 0, 1) := by decide +kernel
theorem dX3_fill_1 : decode cX3_fill 1 = .ok (.iconst 0, 1) := by decide +kernel
theorem dX3_fill_2 : decode cX3_fill 2 = .ok (.putfield 18, 3) := by decide +kernel
theorem dX3_fill_5 : decode cX3_fill 5 = .ok (.aload_n 0, 1) := by decide +kernel
theorem dX3_fill_6 : decode cX3_fill 6 = .ok (.iconst 0, 1) := by decide +kernel
theorem dX3_fill_7 : decode cX3_fill 7 = .ok (.putfield 22, 3) := by decide +kernel
theorem dX3_fill_10 : decode cX3_fill 10 = .ok (.aload_n 0, 1) := by decide +kernel
theorem dX3_fill_11 : decode cX3_fill 11 = .ok (.aload_n 1, 1) := by decide +kernel
theorem dX3_fill_12 : decode cX3_fill 12 = .ok (.iload_n 2, 1) := by decide +kernel
theorem dX3_fill_13 : decode cX3_fill 13 = .ok (.invokevirtual 26, 3) := by decide +kernel
theorem dX3_fill_16 : decode cX3_fill 16 = .ok (.putfield 32, 3) := by decide +kernel
theorem dX3_fill_19 : decode cX3_fill 19 = .ok (.aload_n 1, 1) := by decide +kernel
theorem dX3_fill_20 : decode cX3_fill 20 = .ok (.getfield 35, 3) := by decide +kernel
theorem dX3_fill_23 : decode cX3_fill 23 = .ok (.iload_n 2, 1) := by decide +kernel
theorem dX3_fill_24 : decode cX3_fill 24 = .ok (.aaload, 1) := by decide +kernel
theorem dX3_fill_25 : decode cX3_fill 25 = .ok (.getfield 39, 3) := by decide +kernel
theorem dX3_fill_28 : decode cX3_fill 28 = .ok (.ifCond .ne 17, 3) := by decide +kernel
theorem dX3_fill_31 : decode cX3_fill 31 = .ok (.aload_n 0, 1) := by decide +kernel
theorem dX3_fill_32 : decode cX3_fill 32 = .ok (.aload_n 1, 1) := by decide +kernel
theorem dX3_fill_33 : decode cX3_fill 33 = .ok (.getfield 35, 3) := by decide +kernel
theorem dX3_fill_36 : decode cX3_fill 36 = .ok (.iload_n 2, 1) := by decide +kernel
theorem dX3_fill_37 : decode cX3_fill 37 = .ok (.aaload, 1) := by decide +kernel
theorem dX3_fill_38 : decode cX3_fill 38 = .ok (.iload_n 2, 1) := by decide +kernel
theorem dX3_fill_39 : decode cX3_fill 39 = .ok (.invokevirtual 44, 3) := by decide +kernel
theorem dX3_fill_42 : decode cX3_fill 42 = .ok (.goto 9, 3) := by decide +kernel
theorem dX3_fill_45 : decode cX3_fill 45 = .ok (.aload_n 0, 1) := by decide +kernel
theorem dX3_fill_46 : decode cX3_fill 46 = .ok (.aload_n 1, 1) := by decide +kernel
theorem dX3_fill_47 : decode cX3_fill 47 = .ok (.iload_n 2, 1) := by decide +kernel
theorem dX3_fill_48 : decode cX3_fill 48 = .ok (.invokevirtual 48, 3) := by decide +kernel
theorem dX3_fill_51 : decode cX3_fill 51 = .ok (.return_, 1) := by decide +kernel
theorem dX3_fillFromSource_0 : decode cX3_fillFromSource 0 = .ok (.aload_n 1, 1) := by decide +kernel
theorem dX3_fillFromSource_1 : decode cX3_fillFromSource 1 = .ok (.getfield 52, 3) := by decide +kernel
theorem dX3_fillFromSource_4 : decode cX3_fillFromSource 4 = .ok (.istore_n 3, 1) := by decide +kernel
theorem dX3_fillFromSource_5 : decode cX3_fillFromSource 5 = .ok (.iload_n 3, 1) := by decide +kernel
theorem dX3_fillFromSource_6 : decode cX3_fillFromSource 6 = .ok (.aload_n 1, 1) := by decide +kernel
theorem dX3_fillFromSource_7 : decode cX3_fillFromSource 7 = .ok (.getfield 55, 3) := by decide +kernel
theorem dX3_fillFromSource_10 : decode cX3_fillFromSource 10 = .ok (.if_icmp .ge 34, 3) := by decide +kernel
theorem dX3_fillFromSource_13 : decode cX3_fillFromSource 13 = .ok (.aload_n 0, 1) := by decide +kernel
theorem dX3_fillFromSource_14 : decode cX3_fillFromSource 14 = .ok (.aload_n 1, 1) := by decide +kernel
theorem dX3_fillFromSource_15 : decode cX3_fillFromSource 15 = .ok (.invokevirtual 58, 3) := by decide +kernel
theorem dX3_fillFromSource_18 : decode cX3_fillFromSource 18 = .ok (.ifCond .eq 26, 3) := by decide +kernel
theorem dX3_fillFromSource_21 : decode cX3_fillFromSource 21 = .ok (.aload_n 0, 1) := by decide +kernel
theorem dX3_fillFromSource_22 : decode cX3_fillFromSource 22 = .ok (.aload_n 1, 1) := by decide +kernel
theorem dX3_fillFromSource_23 : decode cX3_fillFromSource 23 = .ok (.bipush (-9), 2) := by decide +kernel
theorem dX3_fillFromSource_25 : decode cX3_fillFromSource 25 = .ok (.iconst 5, 1) := by decide +kernel
theorem dX3_fillFromSource_26 : decode cX3_fillFromSource 26 = .ok (.iload_n 2, 1) := by decide +kernel
theorem dX3_fillFromSource_27 : decode cX3_fillFromSource 27 = .ok (.imul, 1) := by decide +kernel
theorem dX3_fillFromSource_28 : decode cX3_fillFromSource 28 = .ok (.iconst 3, 1) := by decide +kernel
theorem dX3_fillFromSource_29 : decode cX3_fillFromSource 29 = .ok (.iload_n 3, 1) := by decide +kernel
theorem dX3_fillFromSource_30 : decode cX3_fillFromSource 30 = .ok (.imul, 1) := by decide +kernel
theorem dX3_fillFromSource_31 : decode cX3_fillFromSource 31 = .ok (.iadd, 1) := by decide +kernel
theorem dX3_fillFromSource_32 : decode cX3_fillFromSource 32 = .ok (.bipush 20, 2) := by decide +kernel
theorem dX3_fillFromSource_34 : decode cX3_fillFromSource 34 = .ok (.irem, 1) := by decide +kernel
theorem dX3_fillFromSource_35 : decode cX3_fillFromSource 35 = .ok (.invokevirtual 62, 3) := by decide +kernel
theorem dX3_fillFromSource_38 : decode cX3_fillFromSource 38 = .ok (.iinc 3 1, 3) := by decide +kernel
theorem dX3_fillFromSource_41 : decode cX3_fillFromSource 41 = .ok (.goto (-36), 3) := by decide +kernel
theorem dX3_fillFromSource_44 : decode cX3_fillFromSource 44 = .ok (.return_, 1) := by decide +kernel
theorem dX3_fillFromChannels_0 : decode cX3_fillFromChannels 0 = .ok (.aload_n 1, 1) := by decide +kernel
theorem dX3_fillFromChannels_1 : decode cX3_fillFromChannels 1 = .ok (.getfield 35, 3) := by decide +kernel
theorem dX3_fillFromChannels_4 : decode cX3_fillFromChannels 4 = .ok (.iload_n 2, 1) := by decide +kernel
theorem dX3_fillFromChannels_5 : decode cX3_fillFromChannels 5 = .ok (.aaload, 1) := by decide +kernel
theorem dX3_fillFromChannels_6 : decode cX3_fillFromChannels 6 = .ok (.astore_n 3, 1) := by decide +kernel
theorem dX3_fillFromChannels_7 : decode cX3_fillFromChannels 7 = .ok (.aload_n 1, 1) := by decide +kernel
theorem dX3_fillFromChannels_8 : decode cX3_fillFromChannels 8 = .ok (.invokevirtual 66, 3) := by decide +kernel
theorem dX3_fillFromChannels_11 : decode cX3_fillFromChannels 11 = .ok (.istore 4, 2) := by decide +kernel
theorem dX3_fillFromChannels_13 : decode cX3_fillFromChannels 13 = .ok (.iconst 0, 1) := by decide +kernel
theorem dX3_fillFromChannels_14 : decode cX3_fillFromChannels 14 = .ok (.istore 5, 2) := by decide +kernel
theorem dX3_fillFromChannels_16 : decode cX3_fillFromChannels 16 = .ok (.iload 5, 2) := by decide +kernel
theorem dX3_fillFromChannels_18 : decode cX3_fillFromChannels 18 = .ok (.aload_n 1, 1) := by decide +kernel
theorem dX3_fillFromChannels_19 : decode cX3_fillFromChannels 19 = .ok (.getfield 70, 3) := by decide +kernel
theorem dX3_fillFromChannels_22 : decode cX3_fillFromChannels 22 = .ok (.if_icmp .ge 98, 3) := by decide +kernel
theorem dX3_fillFromChannels_25 : decode cX3_fillFromChannels 25 = .ok (.aload_n 1, 1) := by decide +kernel
theorem dX3_fillFromChannels_26 : decode cX3_fillFromChannels 26 = .ok (.getfield 73, 3) := by decide +kernel
theorem dX3_fillFromChannels_29 : decode cX3_fillFromChannels 29 = .ok (.iload 5, 2) := by decide +kernel
theorem dX3_fillFromChannels_31 : decode cX3_fillFromChannels 31 = .ok (.aaload, 1) := by decide +kernel
theorem dX3_fillFromChannels_32 : decode cX3_fillFromChannels 32 = .ok (.astore 6, 2) := by decide +kernel
theorem dX3_fillFromChannels_34 : decode cX3_fillFromChannels 34 = .ok (.aload 6, 2) := by decide +kernel
theorem dX3_fillFromChannels_36 : decode cX3_fillFromChannels 36 = .ok (.getfield 76, 3) := by decide +kernel
theorem dX3_fillFromChannels_39 : decode cX3_fillFromChannels 39 = .ok (.iload_n 2, 1) := by decide +kernel
theorem dX3_fillFromChannels_40 : decode cX3_fillFromChannels 40 = .ok (.if_icmp .ne 74, 3) := by decide +kernel
theorem dX3_fillFromChannels_43 : decode cX3_fillFromChannels 43 = .ok (.aload 6, 2) := by decide +kernel
theorem dX3_fillFromChannels_45 : decode cX3_fillFromChannels 45 = .ok (.getfield 81, 3) := by decide +kernel
theorem dX3_fillFromChannels_48 : decode cX3_fillFromChannels 48 = .ok (.istore 7, 2) := by decide +kernel
theorem dX3_fillFromChannels_50 : decode cX3_fillFromChannels 50 = .ok (.iload 7, 2) := by decide +kernel
theorem dX3_fillFromChannels_52 : decode cX3_fillFromChannels 52 = .ok (.aload 6, 2) := by decide +kernel
theorem dX3_fillFromChannels_54 : decode cX3_fillFromChannels 54 = .ok (.getfield 84, 3) := by decide +kernel
theorem dX3_fillFromChannels_57 : decode cX3_fillFromChannels 57 = .ok (.if_icmp .ge 44, 3) := by decide +kernel
theorem dX3_fillFromChannels_60 : decode cX3_fillFromChannels 60 = .ok (.aload 6, 2) := by decide +kernel
theorem dX3_fillFromChannels_62 : decode cX3_fillFromChannels 62 = .ok (.iload 7, 2) := by decide +kernel
theorem dX3_fillFromChannels_64 : decode cX3_fillFromChannels 64 = .ok (.iload 4, 2) := by decide +kernel
theorem dX3_fillFromChannels_66 : decode cX3_fillFromChannels 66 = .ok (.invokevirtual 87, 3) := by decide +kernel
theorem dX3_fillFromChannels_69 : decode cX3_fillFromChannels 69 = .ok (.ifCond .ne 32, 3) := by decide +kernel
theorem dX3_fillFromChannels_72 : decode cX3_fillFromChannels 72 = .ok (.aload_n 0, 1) := by decide +kernel
theorem dX3_fillFromChannels_73 : decode cX3_fillFromChannels 73 = .ok (.aload_n 3, 1) := by decide +kernel
theorem dX3_fillFromChannels_74 : decode cX3_fillFromChannels 74 = .ok (.invokevirtual 58, 3) := by decide +kernel
theorem dX3_fillFromChannels_77 : decode cX3_fillFromChannels 77 = .ok (.ifCond .eq 24, 3) := by decide +kernel
theorem dX3_fillFromChannels_80 : decode cX3_fillFromChannels 80 = .ok (.aload_n 0, 1) := by decide +kernel
theorem dX3_fillFromChannels_81 : decode cX3_fillFromChannels 81 = .ok (.aload_n 3, 1) := by decide +kernel
theorem dX3_fillFromChannels_82 : decode cX3_fillFromChannels 82 = .ok (.iload 5, 2) := by decide +kernel
theorem dX3_fillFromChannels_84 : decode cX3_fillFromChannels 84 = .ok (.aload 6, 2) := by decide +kernel
theorem dX3_fillFromChannels_86 : decode cX3_fillFromChannels 86 = .ok (.getfield 91, 3) := by decide +kernel
theorem dX3_fillFromChannels_89 : decode cX3_fillFromChannels 89 = .ok (.iload 7, 2) := by decide +kernel
theorem dX3_fillFromChannels_91 : decode cX3_fillFromChannels 91 = .ok (.iaload, 1) := by decide +kernel
theorem dX3_fillFromChannels_92 : decode cX3_fillFromChannels 92 = .ok (.invokevirtual 62, 3) := by decide +kernel
theorem dX3_fillFromChannels_95 : decode cX3_fillFromChannels 95 = .ok (.iinc 7 1, 3) := by decide +kernel
theorem dX3_fillFromChannels_98 : decode cX3_fillFromChannels 98 = .ok (.goto (-48), 3) := by decide +kernel
theorem dX3_fillFromChannels_101 : decode cX3_fillFromChannels 101 = .ok (.aload 6, 2) := by decide +kernel
theorem dX3_fillFromChannels_103 : decode cX3_fillFromChannels 103 = .ok (.iload 7, 2) := by decide +kernel
theorem dX3_fillFromChannels_105 : decode cX3_fillFromChannels 105 = .ok (.iload 4, 2) := by decide +kernel
theorem dX3_fillFromChannels_107 : decode cX3_fillFromChannels 107 = .ok (.invokevirtual 87, 3) := by decide +kernel
theorem dX3_fillFromChannels_110 : decode cX3_fillFromChannels 110 = .ok (.ifCond .ne 4, 3) := by decide +kernel
theorem dX3_fillFromChannels_113 : decode cX3_fillFromChannels 113 = .ok (.return_, 1) := by decide +kernel
theorem dX3_fillFromChannels_114 : decode cX3_fillFromChannels 114 = .ok (.iinc 5 1, 3) := by decide +kernel
theorem dX3_fillFromChannels_117 : decode cX3_fillFromChannels 117 = .ok (.goto (-101), 3) := by decide +kernel
theorem dX3_fillFromChannels_120 : decode cX3_fillFromChannels 120 = .ok (.return_, 1) := by decide +kernel
theorem dX3_takesMore_0 : decode cX3_takesMore 0 = .ok (.aload_n 0, 1) := by decide +kernel
theorem dX3_takesMore_1 : decode cX3_takesMore 1 = .ok (.getfield 22, 3) := by decide +kernel
theorem dX3_takesMore_4 : decode cX3_takesMore 4 = .ok (.ifCond .ne 34, 3) := by decide +kernel
theorem dX3_takesMore_7 : decode cX3_takesMore 7 = .ok (.aload_n 0, 1) := by decide +kernel
theorem dX3_takesMore_8 : decode cX3_takesMore 8 = .ok (.getfield 18, 3) := by decide +kernel
theorem dX3_takesMore_11 : decode cX3_takesMore 11 = .ok (.aload_n 1, 1) := by decide +kernel
theorem dX3_takesMore_12 : decode cX3_takesMore 12 = .ok (.getfield 94, 3) := by decide +kernel
theorem dX3_takesMore_15 : decode cX3_takesMore 15 = .ok (.if_icmp .ge 23, 3) := by decide +kernel
theorem dX3_takesMore_18 : decode cX3_takesMore 18 = .ok (.aload_n 0, 1) := by decide +kernel
theorem dX3_takesMore_19 : decode cX3_takesMore 19 = .ok (.getfield 18, 3) := by decide +kernel
theorem dX3_takesMore_22 : decode cX3_takesMore 22 = .ok (.bipush 8, 2) := by decide +kernel
theorem dX3_takesMore_24 : decode cX3_takesMore 24 = .ok (.if_icmp .ge 14, 3) := by decide +kernel
theorem dX3_takesMore_27 : decode cX3_takesMore 27 = .ok (.aload_n 0, 1) := by decide +kernel
theorem dX3_takesMore_28 : decode cX3_takesMore 28 = .ok (.getfield 32, 3) := by decide +kernel
theorem dX3_takesMore_31 : decode cX3_takesMore 31 = .ok (.ifCond .le 7, 3) := by decide +kernel
theorem dX3_takesMore_34 : decode cX3_takesMore 34 = .ok (.iconst 1, 1) := by decide +kernel
theorem dX3_takesMore_35 : decode cX3_takesMore 35 = .ok (.goto 4, 3) := by decide +kernel
theorem dX3_takesMore_38 : decode cX3_takesMore 38 = .ok (.iconst 0, 1) := by decide +kernel
theorem dX3_takesMore_39 : decode cX3_takesMore 39 = .ok (.ireturn, 1) := by decide +kernel
theorem dX3_add_0 : decode cX3_add 0 = .ok (.aload_n 1, 1) := by decide +kernel
theorem dX3_add_1 : decode cX3_add 1 = .ok (.getfield 52, 3) := by decide +kernel
theorem dX3_add_4 : decode cX3_add 4 = .ok (.aload_n 0, 1) := by decide +kernel
theorem dX3_add_5 : decode cX3_add 5 = .ok (.getfield 18, 3) := by decide +kernel
theorem dX3_add_8 : decode cX3_add 8 = .ok (.iadd, 1) := by decide +kernel
theorem dX3_add_9 : decode cX3_add 9 = .ok (.istore 4, 2) := by decide +kernel
theorem dX3_add_11 : decode cX3_add 11 = .ok (.aload_n 1, 1) := by decide +kernel
theorem dX3_add_12 : decode cX3_add 12 = .ok (.iload 4, 2) := by decide +kernel
theorem dX3_add_14 : decode cX3_add 14 = .ok (.iload_n 3, 1) := by decide +kernel
theorem dX3_add_15 : decode cX3_add 15 = .ok (.invokevirtual 97, 3) := by decide +kernel
theorem dX3_add_18 : decode cX3_add 18 = .ok (.ifCond .eq 9, 3) := by decide +kernel
theorem dX3_add_21 : decode cX3_add 21 = .ok (.aload_n 0, 1) := by decide +kernel
theorem dX3_add_22 : decode cX3_add 22 = .ok (.iconst 1, 1) := by decide +kernel
theorem dX3_add_23 : decode cX3_add 23 = .ok (.putfield 22, 3) := by decide +kernel
theorem dX3_add_26 : decode cX3_add 26 = .ok (.return_, 1) := by decide +kernel
theorem dX3_add_27 : decode cX3_add 27 = .ok (.aload_n 1, 1) := by decide +kernel
theorem dX3_add_28 : decode cX3_add 28 = .ok (.iload 4, 2) := by decide +kernel
theorem dX3_add_30 : decode cX3_add 30 = .ok (.invokevirtual 100, 3) := by decide +kernel
theorem dX3_add_33 : decode cX3_add 33 = .ok (.ifCond .ne 21, 3) := by decide +kernel
theorem dX3_add_36 : decode cX3_add 36 = .ok (.aload_n 1, 1) := by decide +kernel
theorem dX3_add_37 : decode cX3_add 37 = .ok (.iload_n 3, 1) := by decide +kernel
theorem dX3_add_38 : decode cX3_add 38 = .ok (.invokevirtual 104, 3) := by decide +kernel
theorem dX3_add_41 : decode cX3_add 41 = .ok (.ifCond .eq 13, 3) := by decide +kernel
theorem dX3_add_44 : decode cX3_add 44 = .ok (.aload_n 0, 1) := by decide +kernel
theorem dX3_add_45 : decode cX3_add 45 = .ok (.dup, 1) := by decide +kernel
theorem dX3_add_46 : decode cX3_add 46 = .ok (.getfield 32, 3) := by decide +kernel
theorem dX3_add_49 : decode cX3_add 49 = .ok (.iconst 1, 1) := by decide +kernel
theorem dX3_add_50 : decode cX3_add 50 = .ok (.isub, 1) := by decide +kernel
theorem dX3_add_51 : decode cX3_add 51 = .ok (.putfield 32, 3) := by decide +kernel
theorem dX3_add_54 : decode cX3_add 54 = .ok (.aload_n 0, 1) := by decide +kernel
