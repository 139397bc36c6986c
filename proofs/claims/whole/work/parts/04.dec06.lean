theorem dX6_poison_9 : decode cX6_poison 9 = .ok (.ireturn, 1) := by decide +kernel
theorem dX6_poison_10 : decode cX6_poison 10 = .ok (.iload_n 2, 1) := by decide +kernel
theorem dX6_poison_11 : decode cX6_poison 11 = .ok (.sipush (-1000), 3) := by decide +kernel
theorem dX6_poison_14 : decode cX6_poison 14 = .ok (.sipush 1000, 3) := by decide +kernel
theorem dX6_poison_17 : decode cX6_poison 17 = .ok (.invokestatic 169, 3) := by decide +kernel
theorem dX6_poison_20 : decode cX6_poison 20 = .ok (.ifCond .ne 6, 3) := by decide +kernel
theorem dX6_poison_23 : decode cX6_poison 23 = .ok (.bipush (-2), 2) := by decide +kernel
theorem dX6_poison_25 : decode cX6_poison 25 = .ok (.ireturn, 1) := by decide +kernel
theorem dX6_poison_26 : decode cX6_poison 26 = .ok (.aload_n 0, 1) := by decide +kernel
theorem dX6_poison_27 : decode cX6_poison 27 = .ok (.getfield 154, 3) := by decide +kernel
theorem dX6_poison_30 : decode cX6_poison 30 = .ok (.ifCond .eq 6, 3) := by decide +kernel
theorem dX6_poison_33 : decode cX6_poison 33 = .ok (.bipush (-3), 2) := by decide +kernel
theorem dX6_poison_35 : decode cX6_poison 35 = .ok (.ireturn, 1) := by decide +kernel
theorem dX6_poison_36 : decode cX6_poison 36 = .ok (.aload_n 0, 1) := by decide +kernel
theorem dX6_poison_37 : decode cX6_poison 37 = .ok (.getfield 31, 3) := by decide +kernel
theorem dX6_poison_40 : decode cX6_poison 40 = .ok (.iload_n 1, 1) := by decide +kernel
theorem dX6_poison_41 : decode cX6_poison 41 = .ok (.iaload, 1) := by decide +kernel
theorem dX6_poison_42 : decode cX6_poison 42 = .ok (.istore_n 3, 1) := by decide +kernel
theorem dX6_poison_43 : decode cX6_poison 43 = .ok (.aload_n 0, 1) := by decide +kernel
theorem dX6_poison_44 : decode cX6_poison 44 = .ok (.getfield 31, 3) := by decide +kernel
theorem dX6_poison_47 : decode cX6_poison 47 = .ok (.iload_n 1, 1) := by decide +kernel
theorem dX6_poison_48 : decode cX6_poison 48 = .ok (.iload_n 2, 1) := by decide +kernel
theorem dX6_poison_49 : decode cX6_poison 49 = .ok (.iastore, 1) := by decide +kernel
theorem dX6_poison_50 : decode cX6_poison 50 = .ok (.iload_n 3, 1) := by decide +kernel
theorem dX6_poison_51 : decode cX6_poison 51 = .ok (.ireturn, 1) := by decide +kernel
theorem dX6_rule_0 : decode cX6_rule 0 = .ok (.iload_n 1, 1) := by decide +kernel
theorem dX6_rule_1 : decode cX6_rule 1 = .ok (.iconst 1, 1) := by decide +kernel
theorem dX6_rule_2 : decode cX6_rule 2 = .ok (.bipush 9, 2) := by decide +kernel
theorem dX6_rule_4 : decode cX6_rule 4 = .ok (.invokestatic 169, 3) := by decide +kernel
theorem dX6_rule_7 : decode cX6_rule 7 = .ok (.ifCond .ne 6, 3) := by decide +kernel
theorem dX6_rule_10 : decode cX6_rule 10 = .ok (.bipush (-2), 2) := by decide +kernel
theorem dX6_rule_12 : decode cX6_rule 12 = .ok (.ireturn, 1) := by decide +kernel
theorem dX6_rule_13 : decode cX6_rule 13 = .ok (.aload_n 0, 1) := by decide +kernel
theorem dX6_rule_14 : decode cX6_rule 14 = .ok (.getfield 138, 3) := by decide +kernel
theorem dX6_rule_17 : decode cX6_rule 17 = .ok (.istore_n 3, 1) := by decide +kernel
theorem dX6_rule_18 : decode cX6_rule 18 = .ok (.aload_n 0, 1) := by decide +kernel
theorem dX6_rule_19 : decode cX6_rule 19 = .ok (.iload_n 1, 1) := by decide +kernel
theorem dX6_rule_20 : decode cX6_rule 20 = .ok (.putfield 138, 3) := by decide +kernel
theorem dX6_rule_23 : decode cX6_rule 23 = .ok (.aload_n 0, 1) := by decide +kernel
theorem dX6_rule_24 : decode cX6_rule 24 = .ok (.iload_n 2, 1) := by decide +kernel
theorem dX6_rule_25 : decode cX6_rule 25 = .ok (.putfield 141, 3) := by decide +kernel
theorem dX6_rule_28 : decode cX6_rule 28 = .ok (.iload_n 3, 1) := by decide +kernel
theorem dX6_rule_29 : decode cX6_rule 29 = .ok (.ireturn, 1) := by decide +kernel
theorem dX6_findDone_0 : decode cX6_findDone 0 = .ok (.iconst 0, 1) := by decide +kernel
theorem dX6_findDone_1 : decode cX6_findDone 1 = .ok (.istore_n 1, 1) := by decide +kernel
theorem dX6_findDone_2 : decode cX6_findDone 2 = .ok (.iload_n 1, 1) := by decide +kernel
theorem dX6_findDone_3 : decode cX6_findDone 3 = .ok (.aload_n 0, 1) := by decide +kernel
theorem dX6_findDone_4 : decode cX6_findDone 4 = .ok (.getfield 131, 3) := by decide +kernel
theorem dX6_findDone_7 : decode cX6_findDone 7 = .ok (.if_icmp .ge 111, 3) := by decide +kernel
theorem dX6_findDone_10 : decode cX6_findDone 10 = .ok (.aload_n 0, 1) := by decide +kernel
theorem dX6_findDone_11 : decode cX6_findDone 11 = .ok (.getfield 7, 3) := by decide +kernel
theorem dX6_findDone_14 : decode cX6_findDone 14 = .ok (.iload_n 1, 1) := by decide +kernel
theorem dX6_findDone_15 : decode cX6_findDone 15 = .ok (.iaload, 1) := by decide +kernel
theorem dX6_findDone_16 : decode cX6_findDone 16 = .ok (.ifCond .ne 18, 3) := by decide +kernel
theorem dX6_findDone_19 : decode cX6_findDone 19 = .ok (.aload_n 0, 1) := by decide +kernel
theorem dX6_findDone_20 : decode cX6_findDone 20 = .ok (.getfield 19, 3) := by decide +kernel
theorem dX6_findDone_23 : decode cX6_findDone 23 = .ok (.iload_n 1, 1) := by decide +kernel
theorem dX6_findDone_24 : decode cX6_findDone 24 = .ok (.iaload, 1) := by decide +kernel
theorem dX6_findDone_25 : decode cX6_findDone 25 = .ok (.aload_n 0, 1) := by decide +kernel
theorem dX6_findDone_26 : decode cX6_findDone 26 = .ok (.getfield 13, 3) := by decide +kernel
theorem dX6_findDone_29 : decode cX6_findDone 29 = .ok (.iload_n 1, 1) := by decide +kernel
theorem dX6_findDone_30 : decode cX6_findDone 30 = .ok (.iaload, 1) := by decide +kernel
theorem dX6_findDone_31 : decode cX6_findDone 31 = .ok (.if_icmp .ne 7, 3) := by decide +kernel
theorem dX6_findDone_34 : decode cX6_findDone 34 = .ok (.iconst 1, 1) := by decide +kernel
theorem dX6_findDone_35 : decode cX6_findDone 35 = .ok (.goto 4, 3) := by decide +kernel
theorem dX6_findDone_38 : decode cX6_findDone 38 = .ok (.iconst 0, 1) := by decide +kernel
theorem dX6_findDone_39 : decode cX6_findDone 39 = .ok (.istore_n 2, 1) := by decide +kernel
theorem dX6_findDone_40 : decode cX6_findDone 40 = .ok (.iconst 0, 1) := by decide +kernel
theorem dX6_findDone_41 : decode cX6_findDone 41 = .ok (.istore_n 3, 1) := by decide +kernel
theorem dX6_findDone_42 : decode cX6_findDone 42 = .ok (.iload_n 3, 1) := by decide +kernel
theorem dX6_findDone_43 : decode cX6_findDone 43 = .ok (.aload_n 0, 1) := by decide +kernel
theorem dX6_findDone_44 : decode cX6_findDone 44 = .ok (.getfield 135, 3) := by decide +kernel
theorem dX6_findDone_47 : decode cX6_findDone 47 = .ok (.if_icmp .ge 58, 3) := by decide +kernel
theorem dX6_findDone_50 : decode cX6_findDone 50 = .ok (.iload_n 2, 1) := by decide +kernel
theorem dX6_findDone_51 : decode cX6_findDone 51 = .ok (.ifCond .eq 46, 3) := by decide +kernel
theorem dX6_findDone_54 : decode cX6_findDone 54 = .ok (.aload_n 0, 1) := by decide +kernel
theorem dX6_findDone_55 : decode cX6_findDone 55 = .ok (.getfield 52, 3) := by decide +kernel
theorem dX6_findDone_58 : decode cX6_findDone 58 = .ok (.iload_n 3, 1) := by decide +kernel
theorem dX6_findDone_59 : decode cX6_findDone 59 = .ok (.iaload, 1) := by decide +kernel
theorem dX6_findDone_60 : decode cX6_findDone 60 = .ok (.iload_n 1, 1) := by decide +kernel
theorem dX6_findDone_61 : decode cX6_findDone 61 = .ok (.if_icmp .ne 32, 3) := by decide +kernel
theorem dX6_findDone_64 : decode cX6_findDone 64 = .ok (.aload_n 0, 1) := by decide +kernel
theorem dX6_findDone_65 : decode cX6_findDone 65 = .ok (.getfield 110, 3) := by decide +kernel
theorem dX6_findDone_68 : decode cX6_findDone 68 = .ok (.aload_n 0, 1) := by decide +kernel
theorem dX6_findDone_69 : decode cX6_findDone 69 = .ok (.getfield 49, 3) := by decide +kernel
theorem dX6_findDone_72 : decode cX6_findDone 72 = .ok (.iload_n 3, 1) := by decide +kernel
theorem dX6_findDone_73 : decode cX6_findDone 73 = .ok (.iaload, 1) := by decide +kernel
theorem dX6_findDone_74 : decode cX6_findDone 74 = .ok (.baload, 1) := by decide +kernel
theorem dX6_findDone_75 : decode cX6_findDone 75 = .ok (.ifCond .eq 22, 3) := by decide +kernel
theorem dX6_findDone_78 : decode cX6_findDone 78 = .ok (.aload_n 0, 1) := by decide +kernel
theorem dX6_findDone_79 : decode cX6_findDone 79 = .ok (.getfield 68, 3) := by decide +kernel
theorem dX6_findDone_82 : decode cX6_findDone 82 = .ok (.iload_n 3, 1) := by decide +kernel
theorem dX6_findDone_83 : decode cX6_findDone 83 = .ok (.iaload, 1) := by decide +kernel
theorem dX6_findDone_84 : decode cX6_findDone 84 = .ok (.aload_n 0, 1) := by decide +kernel
theorem dX6_findDone_85 : decode cX6_findDone 85 = .ok (.getfield 65, 3) := by decide +kernel
theorem dX6_findDone_88 : decode cX6_findDone 88 = .ok (.iload_n 3, 1) := by decide +kernel
theorem dX6_findDone_89 : decode cX6_findDone 89 = .ok (.iaload, 1) := by decide +kernel
theorem dX6_findDone_90 : decode cX6_findDone 90 = .ok (.if_icmp .lt 7, 3) := by decide +kernel
theorem dX6_findDone_93 : decode cX6_findDone 93 = .ok (.iconst 1, 1) := by decide +kernel
theorem dX6_findDone_94 : decode cX6_findDone 94 = .ok (.goto 4, 3) := by decide +kernel
theorem dX6_findDone_97 : decode cX6_findDone 97 = .ok (.iconst 0, 1) := by decide +kernel
theorem dX6_findDone_98 : decode cX6_findDone 98 = .ok (.istore_n 2, 1) := by decide +kernel
theorem dX6_findDone_99 : decode cX6_findDone 99 = .ok (.iinc 3 1, 3) := by decide +kernel
theorem dX6_findDone_102 : decode cX6_findDone 102 = .ok (.goto (-60), 3) := by decide +kernel
theorem dX6_findDone_105 : decode cX6_findDone 105 = .ok (.aload_n 0, 1) := by decide +kernel
theorem dX6_findDone_106 : decode cX6_findDone 106 = .ok (.getfield 110, 3) := by decide +kernel
theorem dX6_findDone_109 : decode cX6_findDone 109 = .ok (.iload_n 1, 1) := by decide +kernel
theorem dX6_findDone_110 : decode cX6_findDone 110 = .ok (.iload_n 2, 1) := by decide +kernel
theorem dX6_findDone_111 : decode cX6_findDone 111 = .ok (.bastore, 1) := by decide +kernel
theorem dX6_findDone_112 : decode cX6_findDone 112 = .ok (.iinc 1 1, 3) := by decide +kernel
theorem dX6_findDone_115 : decode cX6_findDone 115 = .ok (.goto (-113), 3) := by decide +kernel
theorem dX6_findDone_118 : decode cX6_findDone 118 = .ok (.return_, 1) := by decide +kernel
theorem dX6_isOver_0 : decode cX6_isOver 0 = .ok (.aload_n 0, 1) := by decide +kernel
theorem dX6_isOver_1 : decode cX6_isOver 1 = .ok (.getfield 110, 3) := by decide +kernel
theorem dX6_isOver_4 : decode cX6_isOver 4 = .ok (.aload_n 0, 1) := by decide +kernel
theorem dX6_isOver_5 : decode cX6_isOver 5 = .ok (.getfield 49, 3) := by decide +kernel
theorem dX6_isOver_8 : decode cX6_isOver 8 = .ok (.iload_n 1, 1) := by decide +kernel
theorem dX6_isOver_9 : decode cX6_isOver 9 = .ok (.iaload, 1) := by decide +kernel
theorem dX6_isOver_10 : decode cX6_isOver 10 = .ok (.baload, 1) := by decide +kernel
theorem dX6_isOver_11 : decode cX6_isOver 11 = .ok (.ifCond .eq 22, 3) := by decide +kernel
theorem dX6_isOver_14 : decode cX6_isOver 14 = .ok (.aload_n 0, 1) := by decide +kernel
theorem dX6_isOver_15 : decode cX6_isOver 15 = .ok (.getfield 68, 3) := by decide +kernel
theorem dX6_isOver_18 : decode cX6_isOver 18 = .ok (.iload_n 1, 1) := by decide +kernel
theorem dX6_isOver_19 : decode cX6_isOver 19 = .ok (.iaload, 1) := by decide +kernel
theorem dX6_isOver_20 : decode cX6_isOver 20 = .ok (.aload_n 0, 1) := by decide +kernel
theorem dX6_isOver_21 : decode cX6_isOver 21 = .ok (.getfield 65, 3) := by decide +kernel
theorem dX6_isOver_24 : decode cX6_isOver 24 = .ok (.iload_n 1, 1) := by decide +kernel
theorem dX6_isOver_25 : decode cX6_isOver 25 = .ok (.iaload, 1) := by decide +kernel
theorem dX6_isOver_26 : decode cX6_isOver 26 = .ok (.if_icmp .lt 7, 3) := by decide +kernel
theorem dX6_isOver_29 : decode cX6_isOver 29 = .ok (.iconst 1, 1) := by decide +kernel
theorem dX6_isOver_30 : decode cX6_isOver 30 = .ok (.goto 4, 3) := by decide +kernel
theorem dX6_isOver_33 : decode cX6_isOver 33 = .ok (.iconst 0, 1) := by decide +kernel
theorem dX6_isOver_34 : decode cX6_isOver 34 = .ok (.ireturn, 1) := by decide +kernel
theorem dX6_ready_0 : decode cX6_ready 0 = .ok (.aload_n 0, 1) := by decide +kernel
theorem dX6_ready_1 : decode cX6_ready 1 = .ok (.getfield 74, 3) := by decide +kernel
theorem dX6_ready_4 : decode cX6_ready 4 = .ok (.iload_n 1, 1) := by decide +kernel
theorem dX6_ready_5 : decode cX6_ready 5 = .ok (.baload, 1) := by decide +kernel
theorem dX6_ready_6 : decode cX6_ready 6 = .ok (.ifCond .eq 27, 3) := by decide +kernel
theorem dX6_ready_9 : decode cX6_ready 9 = .ok (.aload_n 0, 1) := by decide +kernel
theorem dX6_ready_10 : decode cX6_ready 10 = .ok (.getfield 68, 3) := by decide +kernel
theorem dX6_ready_13 : decode cX6_ready 13 = .ok (.iload_n 1, 1) := by decide +kernel
theorem dX6_ready_14 : decode cX6_ready 14 = .ok (.iaload, 1) := by decide +kernel
theorem dX6_ready_15 : decode cX6_ready 15 = .ok (.aload_n 0, 1) := by decide +kernel
theorem dX6_ready_16 : decode cX6_ready 16 = .ok (.getfield 77, 3) := by decide +kernel
theorem dX6_ready_19 : decode cX6_ready 19 = .ok (.iload_n 1, 1) := by decide +kernel
theorem dX6_ready_20 : decode cX6_ready 20 = .ok (.iaload, 1) := by decide +kernel
theorem dX6_ready_21 : decode cX6_ready 21 = .ok (.if_icmp .ge 12, 3) := by decide +kernel
theorem dX6_ready_24 : decode cX6_ready 24 = .ok (.aload_n 0, 1) := by decide +kernel
theorem dX6_ready_25 : decode cX6_ready 25 = .ok (.getfield 89, 3) := by decide +kernel
theorem dX6_ready_28 : decode cX6_ready 28 = .ok (.iload_n 1, 1) := by decide +kernel
theorem dX6_ready_29 : decode cX6_ready 29 = .ok (.iaload, 1) := by decide +kernel
theorem dX6_ready_30 : decode cX6_ready 30 = .ok (.goto 9, 3) := by decide +kernel
theorem dX6_ready_33 : decode cX6_ready 33 = .ok (.aload_n 0, 1) := by decide +kernel
theorem dX6_ready_34 : decode cX6_ready 34 = .ok (.getfield 62, 3) := by decide +kernel
theorem dX6_ready_37 : decode cX6_ready 37 = .ok (.iload_n 1, 1) := by decide +kernel
theorem dX6_ready_38 : decode cX6_ready 38 = .ok (.iaload, 1) := by decide +kernel
theorem dX6_ready_39 : decode cX6_ready 39 = .ok (.ireturn, 1) := by decide +kernel
theorem dX6_isAside_0 : decode cX6_isAside 0 = .ok (.iconst 0, 1) := by decide +kernel
theorem dX6_isAside_1 : decode cX6_isAside 1 = .ok (.istore_n 3, 1) := by decide +kernel
theorem dX6_isAside_2 : decode cX6_isAside 2 = .ok (.iconst 0, 1) := by decide +kernel
theorem dX6_isAside_3 : decode cX6_isAside 3 = .ok (.istore 4, 2) := by decide +kernel
theorem dX6_isAside_5 : decode cX6_isAside 5 = .ok (.iload 4, 2) := by decide +kernel
theorem dX6_isAside_7 : decode cX6_isAside 7 = .ok (.aload_n 0, 1) := by decide +kernel
theorem dX6_isAside_8 : decode cX6_isAside 8 = .ok (.getfield 43, 3) := by decide +kernel
theorem dX6_isAside_11 : decode cX6_isAside 11 = .ok (.iload_n 1, 1) := by decide +kernel
theorem dX6_isAside_12 : decode cX6_isAside 12 = .ok (.iaload, 1) := by decide +kernel
theorem dX6_isAside_13 : decode cX6_isAside 13 = .ok (.if_icmp .ge 35, 3) := by decide +kernel
theorem dX6_isAside_16 : decode cX6_isAside 16 = .ok (.iload_n 3, 1) := by decide +kernel
theorem dX6_isAside_17 : decode cX6_isAside 17 = .ok (.ifCond .ne 19, 3) := by decide +kernel
theorem dX6_isAside_20 : decode cX6_isAside 20 = .ok (.aload_n 0, 1) := by decide +kernel
theorem dX6_isAside_21 : decode cX6_isAside 21 = .ok (.getfield 46, 3) := by decide +kernel
theorem dX6_isAside_24 : decode cX6_isAside 24 = .ok (.bipush 8, 2) := by decide +kernel
theorem dX6_isAside_26 : decode cX6_isAside 26 = .ok (.iload_n 1, 1) := by decide +kernel
theorem dX6_isAside_27 : decode cX6_isAside 27 = .ok (.imul, 1) := by decide +kernel
theorem dX6_isAside_28 : decode cX6_isAside 28 = .ok (.iload 4, 2) := by decide +kernel
theorem dX6_isAside_30 : decode cX6_isAside 30 = .ok (.iadd, 1) := by decide +kernel
theorem dX6_isAside_31 : decode cX6_isAside 31 = .ok (.iaload, 1) := by decide +kernel
theorem dX6_isAside_32 : decode cX6_isAside 32 = .ok (.iload_n 2, 1) := by decide +kernel
theorem dX6_isAside_33 : decode cX6_isAside 33 = .ok (.if_icmp .ne 7, 3) := by decide +kernel
theorem dX6_isAside_36 : decode cX6_isAside 36 = .ok (.iconst 1, 1) := by decide +kernel
theorem dX6_isAside_37 : decode cX6_isAside 37 = .ok (.goto 4, 3) := by decide +kernel
theorem dX6_isAside_40 : decode cX6_isAside 40 = .ok (.iconst 0, 1) := by decide +kernel
theorem dX6_isAside_41 : decode cX6_isAside 41 = .ok (.istore_n 3, 1) := by decide +kernel
theorem dX6_isAside_42 : decode cX6_isAside 42 = .ok (.iinc 4 1, 3) := by decide +kernel
theorem dX6_isAside_45 : decode cX6_isAside 45 = .ok (.goto (-40), 3) := by decide +kernel
theorem dX6_isAside_48 : decode cX6_isAside 48 = .ok (.iload_n 3, 1) := by decide +kernel
theorem dX6_isAside_49 : decode cX6_isAside 49 = .ok (.ireturn, 1) := by decide +kernel
theorem dX6_canGive_0 : decode cX6_canGive 0 = .ok (.aload_n 0, 1) := by decide +kernel
theorem dX6_canGive_1 : decode cX6_canGive 1 = .ok (.getfield 7, 3) := by decide +kernel
theorem dX6_canGive_4 : decode cX6_canGive 4 = .ok (.iload_n 1, 1) := by decide +kernel
theorem dX6_canGive_5 : decode cX6_canGive 5 = .ok (.iaload, 1) := by decide +kernel
theorem dX6_canGive_6 : decode cX6_canGive 6 = .ok (.iconst 5, 1) := by decide +kernel
theorem dX6_canGive_7 : decode cX6_canGive 7 = .ok (.if_icmp .ne 15, 3) := by decide +kernel
theorem dX6_canGive_10 : decode cX6_canGive 10 = .ok (.aload_n 0, 1) := by decide +kernel
theorem dX6_canGive_11 : decode cX6_canGive 11 = .ok (.getfield 25, 3) := by decide +kernel
theorem dX6_canGive_14 : decode cX6_canGive 14 = .ok (.iload_n 1, 1) := by decide +kernel
theorem dX6_canGive_15 : decode cX6_canGive 15 = .ok (.iaload, 1) := by decide +kernel
theorem dX6_canGive_16 : decode cX6_canGive 16 = .ok (.sipush 200, 3) := by decide +kernel
theorem dX6_canGive_19 : decode cX6_canGive 19 = .ok (.if_icmp .ge 7, 3) := by decide +kernel
theorem dX6_canGive_22 : decode cX6_canGive 22 = .ok (.iconst 1, 1) := by decide +kernel
theorem dX6_canGive_23 : decode cX6_canGive 23 = .ok (.goto 4, 3) := by decide +kernel
theorem dX6_canGive_26 : decode cX6_canGive 26 = .ok (.iconst 0, 1) := by decide +kernel
theorem dX6_canGive_27 : decode cX6_canGive 27 = .ok (.istore_n 2, 1) := by decide +kernel
theorem dX6_canGive_28 : decode cX6_canGive 28 = .ok (.iconst 0, 1) := by decide +kernel
theorem dX6_canGive_29 : decode cX6_canGive 29 = .ok (.istore_n 3, 1) := by decide +kernel
theorem dX6_canGive_30 : decode cX6_canGive 30 = .ok (.iload_n 3, 1) := by decide +kernel
theorem dX6_canGive_31 : decode cX6_canGive 31 = .ok (.aload_n 0, 1) := by decide +kernel
theorem dX6_canGive_32 : decode cX6_canGive 32 = .ok (.getfield 135, 3) := by decide +kernel
theorem dX6_canGive_35 : decode cX6_canGive 35 = .ok (.if_icmp .ge 40, 3) := by decide +kernel
theorem dX6_canGive_38 : decode cX6_canGive 38 = .ok (.iload_n 2, 1) := by decide +kernel
theorem dX6_canGive_39 : decode cX6_canGive 39 = .ok (.ifCond .eq 28, 3) := by decide +kernel
theorem dX6_canGive_42 : decode cX6_canGive 42 = .ok (.aload_n 0, 1) := by decide +kernel
theorem dX6_canGive_43 : decode cX6_canGive 43 = .ok (.getfield 49, 3) := by decide +kernel
theorem dX6_canGive_46 : decode cX6_canGive 46 = .ok (.iload_n 3, 1) := by decide +kernel
theorem dX6_canGive_47 : decode cX6_canGive 47 = .ok (.iaload, 1) := by decide +kernel
theorem dX6_canGive_48 : decode cX6_canGive 48 = .ok (.iload_n 1, 1) := by decide +kernel
theorem dX6_canGive_49 : decode cX6_canGive 49 = .ok (.if_icmp .ne 14, 3) := by decide +kernel
theorem dX6_canGive_52 : decode cX6_canGive 52 = .ok (.aload_n 0, 1) := by decide +kernel
theorem dX6_canGive_53 : decode cX6_canGive 53 = .ok (.getfield 65, 3) := by decide +kernel
theorem dX6_canGive_56 : decode cX6_canGive 56 = .ok (.iload_n 3, 1) := by decide +kernel
theorem dX6_canGive_57 : decode cX6_canGive 57 = .ok (.iaload, 1) := by decide +kernel
theorem dX6_canGive_58 : decode cX6_canGive 58 = .ok (.bipush 64, 2) := by decide +kernel
theorem dX6_canGive_60 : decode cX6_canGive 60 = .ok (.if_icmp .ge 7, 3) := by decide +kernel
theorem dX6_canGive_63 : decode cX6_canGive 63 = .ok (.iconst 1, 1) := by decide +kernel
theorem dX6_canGive_64 : decode cX6_canGive 64 = .ok (.goto 4, 3) := by decide +kernel
theorem dX6_canGive_67 : decode cX6_canGive 67 = .ok (.iconst 0, 1) := by decide +kernel
theorem dX6_canGive_68 : decode cX6_canGive 68 = .ok (.istore_n 2, 1) := by decide +kernel
theorem dX6_canGive_69 : decode cX6_canGive 69 = .ok (.iinc 3 1, 3) := by decide +kernel
theorem dX6_canGive_72 : decode cX6_canGive 72 = .ok (.goto (-42), 3) := by decide +kernel
theorem dX6_canGive_75 : decode cX6_canGive 75 = .ok (.iload_n 2, 1) := by decide +kernel
theorem dX6_canGive_76 : decode cX6_canGive 76 = .ok (.ireturn, 1) := by decide +kernel
theorem dX6_nextOf_0 : decode cX6_nextOf 0 = .ok (.aload_n 0, 1) := by decide +kernel
theorem dX6_nextOf_1 : decode cX6_nextOf 1 = .ok (.getfield 7, 3) := by decide +kernel
theorem dX6_nextOf_4 : decode cX6_nextOf 4 = .ok (.iload_n 1, 1) := by decide +kernel
theorem dX6_nextOf_5 : decode cX6_nextOf 5 = .ok (.iaload, 1) := by decide +kernel
theorem dX6_nextOf_6 : decode cX6_nextOf 6 = .ok (.ifCond .ne 25, 3) := by decide +kernel
theorem dX6_nextOf_9 : decode cX6_nextOf 9 = .ok (.aload_n 0, 1) := by decide +kernel
theorem dX6_nextOf_10 : decode cX6_nextOf 10 = .ok (.getfield 19, 3) := by decide +kernel
theorem dX6_nextOf_13 : decode cX6_nextOf 13 = .ok (.iload_n 1, 1) := by decide +kernel
theorem dX6_nextOf_14 : decode cX6_nextOf 14 = .ok (.iaload, 1) := by decide +kernel
theorem dX6_nextOf_15 : decode cX6_nextOf 15 = .ok (.aload_n 0, 1) := by decide +kernel
theorem dX6_nextOf_16 : decode cX6_nextOf 16 = .ok (.getfield 13, 3) := by decide +kernel
theorem dX6_nextOf_19 : decode cX6_nextOf 19 = .ok (.iload_n 1, 1) := by decide +kernel
theorem dX6_nextOf_20 : decode cX6_nextOf 20 = .ok (.iaload, 1) := by decide +kernel
theorem dX6_nextOf_21 : decode cX6_nextOf 21 = .ok (.if_icmp .ge 7, 3) := by decide +kernel
theorem dX6_nextOf_24 : decode cX6_nextOf 24 = .ok (.iconst (-1), 1) := by decide +kernel
theorem dX6_nextOf_25 : decode cX6_nextOf 25 = .ok (.goto 5, 3) := by decide +kernel
theorem dX6_nextOf_28 : decode cX6_nextOf 28 = .ok (.bipush (-9), 2) := by decide +kernel
theorem dX6_nextOf_30 : decode cX6_nextOf 30 = .ok (.ireturn, 1) := by decide +kernel
theorem dX6_nextOf_31 : decode cX6_nextOf 31 = .ok (.bipush (-9), 2) := by decide +kernel
theorem dX6_nextOf_33 : decode cX6_nextOf 33 = .ok (.istore_n 2, 1) := by decide +kernel
theorem dX6_nextOf_34 : decode cX6_nextOf 34 = .ok (.aload_n 0, 1) := by decide +kernel
theorem dX6_nextOf_35 : decode cX6_nextOf 35 = .ok (.getfield 135, 3) := by decide +kernel
theorem dX6_nextOf_38 : decode cX6_nextOf 38 = .ok (.iconst 1, 1) := by decide +kernel
theorem dX6_nextOf_39 : decode cX6_nextOf 39 = .ok (.isub, 1) := by decide +kernel
theorem dX6_nextOf_40 : decode cX6_nextOf 40 = .ok (.istore_n 3, 1) := by decide +kernel
theorem dX6_nextOf_41 : decode cX6_nextOf 41 = .ok (.iload_n 3, 1) := by decide +kernel
theorem dX6_nextOf_42 : decode cX6_nextOf 42 = .ok (.ifCond .lt 33, 3) := by decide +kernel
theorem dX6_nextOf_45 : decode cX6_nextOf 45 = .ok (.aload_n 0, 1) := by decide +kernel
theorem dX6_nextOf_46 : decode cX6_nextOf 46 = .ok (.getfield 52, 3) := by decide +kernel
theorem dX6_nextOf_49 : decode cX6_nextOf 49 = .ok (.iload_n 3, 1) := by decide +kernel
theorem dX6_nextOf_50 : decode cX6_nextOf 50 = .ok (.iaload, 1) := by decide +kernel
theorem dX6_nextOf_51 : decode cX6_nextOf 51 = .ok (.iload_n 1, 1) := by decide +kernel
theorem dX6_nextOf_52 : decode cX6_nextOf 52 = .ok (.if_icmp .ne 15, 3) := by decide +kernel
theorem dX6_nextOf_55 : decode cX6_nextOf 55 = .ok (.aload_n 0, 1) := by decide +kernel
theorem dX6_nextOf_56 : decode cX6_nextOf 56 = .ok (.iload_n 3, 1) := by decide +kernel
theorem dX6_nextOf_57 : decode cX6_nextOf 57 = .ok (.invokevirtual 180, 3) := by decide +kernel
theorem dX6_nextOf_60 : decode cX6_nextOf 60 = .ok (.ifCond .ne 7, 3) := by decide +kernel
theorem dX6_nextOf_63 : decode cX6_nextOf 63 = .ok (.iload_n 3, 1) := by decide +kernel
theorem dX6_nextOf_64 : decode cX6_nextOf 64 = .ok (.goto 4, 3) := by decide +kernel
theorem dX6_nextOf_67 : decode cX6_nextOf 67 = .ok (.iload_n 2, 1) := by decide +kernel
theorem dX6_nextOf_68 : decode cX6_nextOf 68 = .ok (.istore_n 2, 1) := by decide +kernel
theorem dX6_nextOf_69 : decode cX6_nextOf 69 = .ok (.iinc 3 (-1), 3) := by decide +kernel
theorem dX6_nextOf_72 : decode cX6_nextOf 72 = .ok (.goto (-31), 3) := by decide +kernel
theorem dX6_nextOf_75 : decode cX6_nextOf 75 = .ok (.iload_n 2, 1) := by decide +kernel
theorem dX6_nextOf_76 : decode cX6_nextOf 76 = .ok (.bipush (-9), 2) := by decide +kernel
theorem dX6_nextOf_78 : decode cX6_nextOf 78 = .ok (.if_icmp .eq 21, 3) := by decide +kernel
theorem dX6_nextOf_81 : decode cX6_nextOf 81 = .ok (.aload_n 0, 1) := by decide +kernel
theorem dX6_nextOf_82 : decode cX6_nextOf 82 = .ok (.getfield 68, 3) := by decide +kernel
theorem dX6_nextOf_85 : decode cX6_nextOf 85 = .ok (.iload_n 2, 1) := by decide +kernel
theorem dX6_nextOf_86 : decode cX6_nextOf 86 = .ok (.iaload, 1) := by decide +kernel
theorem dX6_nextOf_87 : decode cX6_nextOf 87 = .ok (.aload_n 0, 1) := by decide +kernel
theorem dX6_nextOf_88 : decode cX6_nextOf 88 = .ok (.iload_n 2, 1) := by decide +kernel
theorem dX6_nextOf_89 : decode cX6_nextOf 89 = .ok (.invokevirtual 183, 3) := by decide +kernel
theorem dX6_nextOf_92 : decode cX6_nextOf 92 = .ok (.if_icmp .ge 7, 3) := by decide +kernel
theorem dX6_nextOf_95 : decode cX6_nextOf 95 = .ok (.iload_n 2, 1) := by decide +kernel
theorem dX6_nextOf_96 : decode cX6_nextOf 96 = .ok (.goto 5, 3) := by decide +kernel
theorem dX6_nextOf_99 : decode cX6_nextOf 99 = .ok (.bipush (-9), 2) := by decide +kernel
theorem dX6_nextOf_101 : decode cX6_nextOf 101 = .ok (.ireturn, 1) := by decide +kernel
theorem dX6_valueOf_0 : decode cX6_valueOf 0 = .ok (.iload_n 2, 1) := by decide +kernel
theorem dX6_valueOf_1 : decode cX6_valueOf 1 = .ok (.iconst (-1), 1) := by decide +kernel
theorem dX6_valueOf_2 : decode cX6_valueOf 2 = .ok (.if_icmp .ne 21, 3) := by decide +kernel
theorem dX6_valueOf_5 : decode cX6_valueOf 5 = .ok (.iconst 5, 1) := by decide +kernel
theorem dX6_valueOf_6 : decode cX6_valueOf 6 = .ok (.iload_n 1, 1) := by decide +kernel
theorem dX6_valueOf_7 : decode cX6_valueOf 7 = .ok (.imul, 1) := by decide +kernel
theorem dX6_valueOf_8 : decode cX6_valueOf 8 = .ok (.iconst 3, 1) := by decide +kernel
theorem dX6_valueOf_9 : decode cX6_valueOf 9 = .ok (.aload_n 0, 1) := by decide +kernel
theorem dX6_valueOf_10 : decode cX6_valueOf 10 = .ok (.getfield 19, 3) := by decide +kernel
theorem dX6_valueOf_13 : decode cX6_valueOf 13 = .ok (.iload_n 1, 1) := by decide +kernel
theorem dX6_valueOf_14 : decode cX6_valueOf 14 = .ok (.iaload, 1) := by decide +kernel
theorem dX6_valueOf_15 : decode cX6_valueOf 15 = .ok (.imul, 1) := by decide +kernel
theorem dX6_valueOf_16 : decode cX6_valueOf 16 = .ok (.iadd, 1) := by decide +kernel
theorem dX6_valueOf_17 : decode cX6_valueOf 17 = .ok (.bipush 20, 2) := by decide +kernel
theorem dX6_valueOf_19 : decode cX6_valueOf 19 = .ok (.irem, 1) := by decide +kernel
theorem dX6_valueOf_20 : decode cX6_valueOf 20 = .ok (.goto 19, 3) := by decide +kernel
theorem dX6_valueOf_23 : decode cX6_valueOf 23 = .ok (.aload_n 0, 1) := by decide +kernel
theorem dX6_valueOf_24 : decode cX6_valueOf 24 = .ok (.getfield 59, 3) := by decide +kernel
theorem dX6_valueOf_27 : decode cX6_valueOf 27 = .ok (.bipush 64, 2) := by decide +kernel
theorem dX6_valueOf_29 : decode cX6_valueOf 29 = .ok (.iload_n 2, 1) := by decide +kernel
theorem dX6_valueOf_30 : decode cX6_valueOf 30 = .ok (.imul, 1) := by decide +kernel
theorem dX6_valueOf_31 : decode cX6_valueOf 31 = .ok (.aload_n 0, 1) := by decide +kernel
theorem dX6_valueOf_32 : decode cX6_valueOf 32 = .ok (.getfield 68, 3) := by decide +kernel
theorem dX6_valueOf_35 : decode cX6_valueOf 35 = .ok (.iload_n 2, 1) := by decide +kernel
theorem dX6_valueOf_36 : decode cX6_valueOf 36 = .ok (.iaload, 1) := by decide +kernel
theorem dX6_valueOf_37 : decode cX6_valueOf 37 = .ok (.iadd, 1) := by decide +kernel
theorem dX6_valueOf_38 : decode cX6_valueOf 38 = .ok (.iaload, 1) := by decide +kernel
theorem dX6_valueOf_39 : decode cX6_valueOf 39 = .ok (.ireturn, 1) := by decide +kernel
theorem dX6_give_0 : decode cX6_give 0 = .ok (.iconst 0, 1) := by decide +kernel
theorem dX6_give_1 : decode cX6_give 1 = .ok (.istore_n 3, 1) := by decide +kernel
theorem dX6_give_2 : decode cX6_give 2 = .ok (.iload_n 3, 1) := by decide +kernel
theorem dX6_give_3 : decode cX6_give 3 = .ok (.aload_n 0, 1) := by decide +kernel
theorem dX6_give_4 : decode cX6_give 4 = .ok (.getfield 135, 3) := by decide +kernel
theorem dX6_give_7 : decode cX6_give 7 = .ok (.if_icmp .ge 71, 3) := by decide +kernel
theorem dX6_give_10 : decode cX6_give 10 = .ok (.aload_n 0, 1) := by decide +kernel
theorem dX6_give_11 : decode cX6_give 11 = .ok (.getfield 49, 3) := by decide +kernel
theorem dX6_give_14 : decode cX6_give 14 = .ok (.iload_n 3, 1) := by decide +kernel
theorem dX6_give_15 : decode cX6_give 15 = .ok (.iaload, 1) := by decide +kernel
theorem dX6_give_16 : decode cX6_give 16 = .ok (.iload_n 1, 1) := by decide +kernel
theorem dX6_give_17 : decode cX6_give 17 = .ok (.if_icmp .ne 55, 3) := by decide +kernel
theorem dX6_give_20 : decode cX6_give 20 = .ok (.aload_n 0, 1) := by decide +kernel
theorem dX6_give_21 : decode cX6_give 21 = .ok (.getfield 65, 3) := by decide +kernel
theorem dX6_give_24 : decode cX6_give 24 = .ok (.iload_n 3, 1) := by decide +kernel
theorem dX6_give_25 : decode cX6_give 25 = .ok (.iaload, 1) := by decide +kernel
theorem dX6_give_26 : decode cX6_give 26 = .ok (.aload_n 0, 1) := by decide +kernel
theorem dX6_give_27 : decode cX6_give 27 = .ok (.getfield 62, 3) := by decide +kernel
theorem dX6_give_30 : decode cX6_give 30 = .ok (.iload_n 3, 1) := by decide +kernel
theorem dX6_give_31 : decode cX6_give 31 = .ok (.iaload, 1) := by decide +kernel
theorem dX6_give_32 : decode cX6_give 32 = .ok (.if_icmp .lt 30, 3) := by decide +kernel
theorem dX6_give_35 : decode cX6_give 35 = .ok (.aload_n 0, 1) := by decide +kernel
theorem dX6_give_36 : decode cX6_give 36 = .ok (.getfield 59, 3) := by decide +kernel
theorem dX6_give_39 : decode cX6_give 39 = .ok (.bipush 64, 2) := by decide +kernel
theorem dX6_give_41 : decode cX6_give 41 = .ok (.iload_n 3, 1) := by decide +kernel
theorem dX6_give_42 : decode cX6_give 42 = .ok (.imul, 1) := by decide +kernel
theorem dX6_give_43 : decode cX6_give 43 = .ok (.aload_n 0, 1) := by decide +kernel
theorem dX6_give_44 : decode cX6_give 44 = .ok (.getfield 62, 3) := by decide +kernel
theorem dX6_give_47 : decode cX6_give 47 = .ok (.iload_n 3, 1) := by decide +kernel
theorem dX6_give_48 : decode cX6_give 48 = .ok (.iaload, 1) := by decide +kernel
theorem dX6_give_49 : decode cX6_give 49 = .ok (.iadd, 1) := by decide +kernel
theorem dX6_give_50 : decode cX6_give 50 = .ok (.iload_n 2, 1) := by decide +kernel
theorem dX6_give_51 : decode cX6_give 51 = .ok (.iastore, 1) := by decide +kernel
theorem dX6_give_52 : decode cX6_give 52 = .ok (.aload_n 0, 1) := by decide +kernel
theorem dX6_give_53 : decode cX6_give 53 = .ok (.getfield 62, 3) := by decide +kernel
theorem dX6_give_56 : decode cX6_give 56 = .ok (.iload_n 3, 1) := by decide +kernel
theorem dX6_give_57 : decode cX6_give 57 = .ok (.dup2, 1) := by decide +kernel
theorem dX6_give_58 : decode cX6_give 58 = .ok (.iaload, 1) := by decide +kernel
theorem dX6_give_59 : decode cX6_give 59 = .ok (.iconst 1, 1) := by decide +kernel
theorem dX6_give_60 : decode cX6_give 60 = .ok (.iadd, 1) := by decide +kernel
theorem dX6_give_61 : decode cX6_give 61 = .ok (.iastore, 1) := by decide +kernel
theorem dX6_give_62 : decode cX6_give 62 = .ok (.aload_n 0, 1) := by decide +kernel
theorem dX6_give_63 : decode cX6_give 63 = .ok (.getfield 65, 3) := by decide +kernel
theorem dX6_give_66 : decode cX6_give 66 = .ok (.iload_n 3, 1) := by decide +kernel
theorem dX6_give_67 : decode cX6_give 67 = .ok (.dup2, 1) := by decide +kernel
theorem dX6_give_68 : decode cX6_give 68 = .ok (.iaload, 1) := by decide +kernel
theorem dX6_give_69 : decode cX6_give 69 = .ok (.iconst 1, 1) := by decide +kernel
theorem dX6_give_70 : decode cX6_give 70 = .ok (.iadd, 1) := by decide +kernel
theorem dX6_give_71 : decode cX6_give 71 = .ok (.iastore, 1) := by decide +kernel
theorem dX6_give_72 : decode cX6_give 72 = .ok (.iinc 3 1, 3) := by decide +kernel
theorem dX6_give_75 : decode cX6_give 75 = .ok (.goto (-73), 3) := by decide +kernel
theorem dX6_give_78 : decode cX6_give 78 = .ok (.return_, 1) := by decide +kernel
theorem dX6_work_0 : decode cX6_work 0 = .ok (.aload_n 0, 1) := by decide +kernel
theorem dX6_work_1 : decode cX6_work 1 = .ok (.getfield 7, 3) := by decide +kernel
theorem dX6_work_4 : decode cX6_work 4 = .ok (.iload_n 1, 1) := by decide +kernel
theorem dX6_work_5 : decode cX6_work 5 = .ok (.iaload, 1) := by decide +kernel
theorem dX6_work_6 : decode cX6_work 6 = .ok (.tableswitch 160 1 5 #[34, 50, 70, 94, 129], 34) := by decide +kernel
theorem dX6_work_40 : decode cX6_work 40 = .ok (.aload_n 0, 1) := by decide +kernel
theorem dX6_work_41 : decode cX6_work 41 = .ok (.iload_n 1, 1) := by decide +kernel
theorem dX6_work_42 : decode cX6_work 42 = .ok (.iload_n 2, 1) := by decide +kernel
theorem dX6_work_43 : decode cX6_work 43 = .ok (.aload_n 0, 1) := by decide +kernel
theorem dX6_work_44 : decode cX6_work 44 = .ok (.getfield 13, 3) := by decide +kernel
theorem dX6_work_47 : decode cX6_work 47 = .ok (.iload_n 1, 1) := by decide +kernel
theorem dX6_work_48 : decode cX6_work 48 = .ok (.iaload, 1) := by decide +kernel
theorem dX6_work_49 : decode cX6_work 49 = .ok (.iadd, 1) := by decide +kernel
theorem dX6_work_50 : decode cX6_work 50 = .ok (.invokevirtual 187, 3) := by decide +kernel
theorem dX6_work_53 : decode cX6_work 53 = .ok (.goto 119, 3) := by decide +kernel
theorem dX6_work_56 : decode cX6_work 56 = .ok (.iload_n 2, 1) := by decide +kernel
theorem dX6_work_57 : decode cX6_work 57 = .ok (.aload_n 0, 1) := by decide +kernel
theorem dX6_work_58 : decode cX6_work 58 = .ok (.getfield 13, 3) := by decide +kernel
theorem dX6_work_61 : decode cX6_work 61 = .ok (.iload_n 1, 1) := by decide +kernel
theorem dX6_work_62 : decode cX6_work 62 = .ok (.iaload, 1) := by decide +kernel
theorem dX6_work_63 : decode cX6_work 63 = .ok (.irem, 1) := by decide +kernel
theorem dX6_work_64 : decode cX6_work 64 = .ok (.ifCond .ne 108, 3) := by decide +kernel
theorem dX6_work_67 : decode cX6_work 67 = .ok (.aload_n 0, 1) := by decide +kernel
theorem dX6_work_68 : decode cX6_work 68 = .ok (.iload_n 1, 1) := by decide +kernel
theorem dX6_work_69 : decode cX6_work 69 = .ok (.iload_n 2, 1) := by decide +kernel
theorem dX6_work_70 : decode cX6_work 70 = .ok (.invokevirtual 187, 3) := by decide +kernel
theorem dX6_work_73 : decode cX6_work 73 = .ok (.goto 99, 3) := by decide +kernel
theorem dX6_work_76 : decode cX6_work 76 = .ok (.aload_n 0, 1) := by decide +kernel
theorem dX6_work_77 : decode cX6_work 77 = .ok (.getfield 22, 3) := by decide +kernel
theorem dX6_work_80 : decode cX6_work 80 = .ok (.iload_n 1, 1) := by decide +kernel
theorem dX6_work_81 : decode cX6_work 81 = .ok (.dup2, 1) := by decide +kernel
theorem dX6_work_82 : decode cX6_work 82 = .ok (.iaload, 1) := by decide +kernel
theorem dX6_work_83 : decode cX6_work 83 = .ok (.iload_n 2, 1) := by decide +kernel
theorem dX6_work_84 : decode cX6_work 84 = .ok (.iadd, 1) := by decide +kernel
theorem dX6_work_85 : decode cX6_work 85 = .ok (.iastore, 1) := by decide +kernel
theorem dX6_work_86 : decode cX6_work 86 = .ok (.aload_n 0, 1) := by decide +kernel
theorem dX6_work_87 : decode cX6_work 87 = .ok (.iload_n 1, 1) := by decide +kernel
theorem dX6_work_88 : decode cX6_work 88 = .ok (.aload_n 0, 1) := by decide +kernel
theorem dX6_work_89 : decode cX6_work 89 = .ok (.getfield 22, 3) := by decide +kernel
theorem dX6_work_92 : decode cX6_work 92 = .ok (.iload_n 1, 1) := by decide +kernel
theorem dX6_work_93 : decode cX6_work 93 = .ok (.iaload, 1) := by decide +kernel
theorem dX6_work_94 : decode cX6_work 94 = .ok (.invokevirtual 187, 3) := by decide +kernel
theorem dX6_work_97 : decode cX6_work 97 = .ok (.goto 75, 3) := by decide +kernel
theorem dX6_work_100 : decode cX6_work 100 = .ok (.aload_n 0, 1) := by decide +kernel
theorem dX6_work_101 : decode cX6_work 101 = .ok (.ldc2_w 191, 3) := by decide +kernel
theorem dX6_work_104 : decode cX6_work 104 = .ok (.aload_n 0, 1) := by decide +kernel
theorem dX6_work_105 : decode cX6_work 105 = .ok (.getfield 145, 3) := by decide +kernel
theorem dX6_work_108 : decode cX6_work 108 = .ok (.i2l, 1) := by decide +kernel
theorem dX6_work_109 : decode cX6_work 109 = .ok (.lmul, 1) := by decide +kernel
theorem dX6_work_110 : decode cX6_work 110 = .ok (.ldc2_w 193, 3) := by decide +kernel
theorem dX6_work_113 : decode cX6_work 113 = .ok (.lrem, 1) := by decide +kernel
theorem dX6_work_114 : decode cX6_work 114 = .ok (.l2i, 1) := by decide +kernel
theorem dX6_work_115 : decode cX6_work 115 = .ok (.putfield 145, 3) := by decide +kernel
theorem dX6_work_118 : decode cX6_work 118 = .ok (.aload_n 0, 1) := by decide +kernel
theorem dX6_work_119 : decode cX6_work 119 = .ok (.iload_n 1, 1) := by decide +kernel
theorem dX6_work_120 : decode cX6_work 120 = .ok (.iload_n 2, 1) := by decide +kernel
theorem dX6_work_121 : decode cX6_work 121 = .ok (.aload_n 0, 1) := by decide +kernel
theorem dX6_work_122 : decode cX6_work 122 = .ok (.getfield 145, 3) := by decide +kernel
theorem dX6_work_125 : decode cX6_work 125 = .ok (.bipush 10, 2) := by decide +kernel
theorem dX6_work_127 : decode cX6_work 127 = .ok (.irem, 1) := by decide +kernel
theorem dX6_work_128 : decode cX6_work 128 = .ok (.iadd, 1) := by decide +kernel
theorem dX6_work_129 : decode cX6_work 129 = .ok (.invokevirtual 187, 3) := by decide +kernel
theorem dX6_work_132 : decode cX6_work 132 = .ok (.goto 40, 3) := by decide +kernel
theorem dX6_work_135 : decode cX6_work 135 = .ok (.aload_n 0, 1) := by decide +kernel
theorem dX6_work_136 : decode cX6_work 136 = .ok (.getfield 28, 3) := by decide +kernel
theorem dX6_work_139 : decode cX6_work 139 = .ok (.sipush 200, 3) := by decide +kernel
theorem dX6_work_142 : decode cX6_work 142 = .ok (.iload_n 1, 1) := by decide +kernel
theorem dX6_work_143 : decode cX6_work 143 = .ok (.imul, 1) := by decide +kernel
theorem dX6_work_144 : decode cX6_work 144 = .ok (.aload_n 0, 1) := by decide +kernel
theorem dX6_work_145 : decode cX6_work 145 = .ok (.getfield 25, 3) := by decide +kernel
theorem dX6_work_148 : decode cX6_work 148 = .ok (.iload_n 1, 1) := by decide +kernel
theorem dX6_work_149 : decode cX6_work 149 = .ok (.iaload, 1) := by decide +kernel
theorem dX6_work_150 : decode cX6_work 150 = .ok (.iadd, 1) := by decide +kernel
theorem dX6_work_151 : decode cX6_work 151 = .ok (.iload_n 2, 1) := by decide +kernel
theorem dX6_work_152 : decode cX6_work 152 = .ok (.iastore, 1) := by decide +kernel
theorem dX6_work_153 : decode cX6_work 153 = .ok (.aload_n 0, 1) := by decide +kernel
theorem dX6_work_154 : decode cX6_work 154 = .ok (.getfield 25, 3) := by decide +kernel
theorem dX6_work_157 : decode cX6_work 157 = .ok (.iload_n 1, 1) := by decide +kernel
theorem dX6_work_158 : decode cX6_work 158 = .ok (.dup2, 1) := by decide +kernel
theorem dX6_work_159 : decode cX6_work 159 = .ok (.iaload, 1) := by decide +kernel
theorem dX6_work_160 : decode cX6_work 160 = .ok (.iconst 1, 1) := by decide +kernel
