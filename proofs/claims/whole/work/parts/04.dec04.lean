theorem dX5_startAnew_54 : decode cX5_startAnew 54 = .ok (.aload_n 0, 1) := by decide +kernel
theorem dX5_startAnew_55 : decode cX5_startAnew 55 = .ok (.iconst 0, 1) := by decide +kernel
theorem dX5_startAnew_56 : decode cX5_startAnew 56 = .ok (.putfield 88, 3) := by decide +kernel
theorem dX5_startAnew_59 : decode cX5_startAnew 59 = .ok (.aload_n 0, 1) := by decide +kernel
theorem dX5_startAnew_60 : decode cX5_startAnew 60 = .ok (.lconst 1, 1) := by decide +kernel
theorem dX5_startAnew_61 : decode cX5_startAnew 61 = .ok (.putfield 254, 3) := by decide +kernel
theorem dX5_startAnew_64 : decode cX5_startAnew 64 = .ok (.aload_n 0, 1) := by decide +kernel
theorem dX5_startAnew_65 : decode cX5_startAnew 65 = .ok (.iconst 0, 1) := by decide +kernel
theorem dX5_startAnew_66 : decode cX5_startAnew 66 = .ok (.putfield 178, 3) := by decide +kernel
theorem dX5_startAnew_69 : decode cX5_startAnew 69 = .ok (.aload_n 0, 1) := by decide +kernel
theorem dX5_startAnew_70 : decode cX5_startAnew 70 = .ok (.iconst 0, 1) := by decide +kernel
theorem dX5_startAnew_71 : decode cX5_startAnew 71 = .ok (.putfield 110, 3) := by decide +kernel
theorem dX5_startAnew_74 : decode cX5_startAnew 74 = .ok (.aload_n 0, 1) := by decide +kernel
theorem dX5_startAnew_75 : decode cX5_startAnew 75 = .ok (.iconst 0, 1) := by decide +kernel
theorem dX5_startAnew_76 : decode cX5_startAnew 76 = .ok (.putfield 251, 3) := by decide +kernel
theorem dX5_startAnew_79 : decode cX5_startAnew 79 = .ok (.aload_n 0, 1) := by decide +kernel
theorem dX5_startAnew_80 : decode cX5_startAnew 80 = .ok (.iconst 0, 1) := by decide +kernel
theorem dX5_startAnew_81 : decode cX5_startAnew 81 = .ok (.putfield 45, 3) := by decide +kernel
theorem dX5_startAnew_84 : decode cX5_startAnew 84 = .ok (.aload_n 0, 1) := by decide +kernel
theorem dX5_startAnew_85 : decode cX5_startAnew 85 = .ok (.iconst 0, 1) := by decide +kernel
theorem dX5_startAnew_86 : decode cX5_startAnew 86 = .ok (.putfield 85, 3) := by decide +kernel
theorem dX5_startAnew_89 : decode cX5_startAnew 89 = .ok (.return_, 1) := by decide +kernel
theorem dX5_isNode_0 : decode cX5_isNode 0 = .ok (.iload_n 0, 1) := by decide +kernel
theorem dX5_isNode_1 : decode cX5_isNode 1 = .ok (.ifCond .lt 12, 3) := by decide +kernel
theorem dX5_isNode_4 : decode cX5_isNode 4 = .ok (.iload_n 0, 1) := by decide +kernel
theorem dX5_isNode_5 : decode cX5_isNode 5 = .ok (.iconst 4, 1) := by decide +kernel
theorem dX5_isNode_6 : decode cX5_isNode 6 = .ok (.if_icmp .ge 7, 3) := by decide +kernel
theorem dX5_isNode_9 : decode cX5_isNode 9 = .ok (.iconst 1, 1) := by decide +kernel
theorem dX5_isNode_10 : decode cX5_isNode 10 = .ok (.goto 4, 3) := by decide +kernel
theorem dX5_isNode_13 : decode cX5_isNode 13 = .ok (.iconst 0, 1) := by decide +kernel
theorem dX5_isNode_14 : decode cX5_isNode 14 = .ok (.ireturn, 1) := by decide +kernel
theorem dX5_mayBe_0 : decode cX5_mayBe 0 = .ok (.iload_n 0, 1) := by decide +kernel
theorem dX5_mayBe_1 : decode cX5_mayBe 1 = .ok (.tableswitch 77 0 2 #[27, 43, 61], 27) := by decide +kernel
theorem dX5_mayBe_28 : decode cX5_mayBe 28 = .ok (.iload_n 1, 1) := by decide +kernel
theorem dX5_mayBe_29 : decode cX5_mayBe 29 = .ok (.ifCond .lt 13, 3) := by decide +kernel
theorem dX5_mayBe_32 : decode cX5_mayBe 32 = .ok (.iload_n 1, 1) := by decide +kernel
theorem dX5_mayBe_33 : decode cX5_mayBe 33 = .ok (.bipush 20, 2) := by decide +kernel
theorem dX5_mayBe_35 : decode cX5_mayBe 35 = .ok (.if_icmp .gt 7, 3) := by decide +kernel
theorem dX5_mayBe_38 : decode cX5_mayBe 38 = .ok (.iconst 1, 1) := by decide +kernel
theorem dX5_mayBe_39 : decode cX5_mayBe 39 = .ok (.goto 4, 3) := by decide +kernel
theorem dX5_mayBe_42 : decode cX5_mayBe 42 = .ok (.iconst 0, 1) := by decide +kernel
theorem dX5_mayBe_43 : decode cX5_mayBe 43 = .ok (.ireturn, 1) := by decide +kernel
theorem dX5_mayBe_44 : decode cX5_mayBe 44 = .ok (.iload_n 1, 1) := by decide +kernel
theorem dX5_mayBe_45 : decode cX5_mayBe 45 = .ok (.bipush (-20), 2) := by decide +kernel
theorem dX5_mayBe_47 : decode cX5_mayBe 47 = .ok (.if_icmp .lt 13, 3) := by decide +kernel
theorem dX5_mayBe_50 : decode cX5_mayBe 50 = .ok (.iload_n 1, 1) := by decide +kernel
theorem dX5_mayBe_51 : decode cX5_mayBe 51 = .ok (.bipush 20, 2) := by decide +kernel
theorem dX5_mayBe_53 : decode cX5_mayBe 53 = .ok (.if_icmp .gt 7, 3) := by decide +kernel
theorem dX5_mayBe_56 : decode cX5_mayBe 56 = .ok (.iconst 1, 1) := by decide +kernel
theorem dX5_mayBe_57 : decode cX5_mayBe 57 = .ok (.goto 4, 3) := by decide +kernel
theorem dX5_mayBe_60 : decode cX5_mayBe 60 = .ok (.iconst 0, 1) := by decide +kernel
theorem dX5_mayBe_61 : decode cX5_mayBe 61 = .ok (.ireturn, 1) := by decide +kernel
theorem dX5_mayBe_62 : decode cX5_mayBe 62 = .ok (.iload_n 1, 1) := by decide +kernel
theorem dX5_mayBe_63 : decode cX5_mayBe 63 = .ok (.iconst 1, 1) := by decide +kernel
theorem dX5_mayBe_64 : decode cX5_mayBe 64 = .ok (.if_icmp .lt 12, 3) := by decide +kernel
theorem dX5_mayBe_67 : decode cX5_mayBe 67 = .ok (.iload_n 1, 1) := by decide +kernel
theorem dX5_mayBe_68 : decode cX5_mayBe 68 = .ok (.iconst 5, 1) := by decide +kernel
theorem dX5_mayBe_69 : decode cX5_mayBe 69 = .ok (.if_icmp .gt 7, 3) := by decide +kernel
theorem dX5_mayBe_72 : decode cX5_mayBe 72 = .ok (.iconst 1, 1) := by decide +kernel
theorem dX5_mayBe_73 : decode cX5_mayBe 73 = .ok (.goto 4, 3) := by decide +kernel
theorem dX5_mayBe_76 : decode cX5_mayBe 76 = .ok (.iconst 0, 1) := by decide +kernel
theorem dX5_mayBe_77 : decode cX5_mayBe 77 = .ok (.ireturn, 1) := by decide +kernel
theorem dX5_mayBe_78 : decode cX5_mayBe 78 = .ok (.iload_n 0, 1) := by decide +kernel
theorem dX5_mayBe_79 : decode cX5_mayBe 79 = .ok (.iconst 3, 1) := by decide +kernel
theorem dX5_mayBe_80 : decode cX5_mayBe 80 = .ok (.if_icmp .lt 12, 3) := by decide +kernel
theorem dX5_mayBe_83 : decode cX5_mayBe 83 = .ok (.iload_n 0, 1) := by decide +kernel
theorem dX5_mayBe_84 : decode cX5_mayBe 84 = .ok (.iconst 5, 1) := by decide +kernel
theorem dX5_mayBe_85 : decode cX5_mayBe 85 = .ok (.if_icmp .gt 7, 3) := by decide +kernel
theorem dX5_mayBe_88 : decode cX5_mayBe 88 = .ok (.iconst 1, 1) := by decide +kernel
theorem dX5_mayBe_89 : decode cX5_mayBe 89 = .ok (.goto 4, 3) := by decide +kernel
theorem dX5_mayBe_92 : decode cX5_mayBe 92 = .ok (.iconst 0, 1) := by decide +kernel
theorem dX5_mayBe_93 : decode cX5_mayBe 93 = .ok (.ireturn, 1) := by decide +kernel
theorem dX5_isIn_0 : decode cX5_isIn 0 = .ok (.iload_n 0, 1) := by decide +kernel
theorem dX5_isIn_1 : decode cX5_isIn 1 = .ok (.iload_n 1, 1) := by decide +kernel
theorem dX5_isIn_2 : decode cX5_isIn 2 = .ok (.ishr, 1) := by decide +kernel
theorem dX5_isIn_3 : decode cX5_isIn 3 = .ok (.iconst 1, 1) := by decide +kernel
theorem dX5_isIn_4 : decode cX5_isIn 4 = .ok (.iand, 1) := by decide +kernel
theorem dX5_isIn_5 : decode cX5_isIn 5 = .ok (.iconst 1, 1) := by decide +kernel
theorem dX5_isIn_6 : decode cX5_isIn 6 = .ok (.if_icmp .ne 7, 3) := by decide +kernel
theorem dX5_isIn_9 : decode cX5_isIn 9 = .ok (.iconst 1, 1) := by decide +kernel
theorem dX5_isIn_10 : decode cX5_isIn 10 = .ok (.goto 4, 3) := by decide +kernel
theorem dX5_isIn_13 : decode cX5_isIn 13 = .ok (.iconst 0, 1) := by decide +kernel
theorem dX5_isIn_14 : decode cX5_isIn 14 = .ok (.ireturn, 1) := by decide +kernel
theorem dX5_asNumber_0 : decode cX5_asNumber 0 = .ok (.iload_n 0, 1) := by decide +kernel
theorem dX5_asNumber_1 : decode cX5_asNumber 1 = .ok (.ifCond .eq 7, 3) := by decide +kernel
theorem dX5_asNumber_4 : decode cX5_asNumber 4 = .ok (.iconst 1, 1) := by decide +kernel
theorem dX5_asNumber_5 : decode cX5_asNumber 5 = .ok (.goto 4, 3) := by decide +kernel
theorem dX5_asNumber_8 : decode cX5_asNumber 8 = .ok (.iconst 0, 1) := by decide +kernel
theorem dX5_asNumber_9 : decode cX5_asNumber 9 = .ok (.ireturn, 1) := by decide +kernel
theorem dX5_nodesThere_0 : decode cX5_nodesThere 0 = .ok (.iconst 0, 1) := by decide +kernel
theorem dX5_nodesThere_1 : decode cX5_nodesThere 1 = .ok (.istore_n 1, 1) := by decide +kernel
theorem dX5_nodesThere_2 : decode cX5_nodesThere 2 = .ok (.iconst 0, 1) := by decide +kernel
theorem dX5_nodesThere_3 : decode cX5_nodesThere 3 = .ok (.istore_n 2, 1) := by decide +kernel
theorem dX5_nodesThere_4 : decode cX5_nodesThere 4 = .ok (.iload_n 2, 1) := by decide +kernel
theorem dX5_nodesThere_5 : decode cX5_nodesThere 5 = .ok (.iconst 4, 1) := by decide +kernel
theorem dX5_nodesThere_6 : decode cX5_nodesThere 6 = .ok (.if_icmp .ge 21, 3) := by decide +kernel
theorem dX5_nodesThere_9 : decode cX5_nodesThere 9 = .ok (.aload_n 0, 1) := by decide +kernel
theorem dX5_nodesThere_10 : decode cX5_nodesThere 10 = .ok (.getfield 30, 3) := by decide +kernel
theorem dX5_nodesThere_13 : decode cX5_nodesThere 13 = .ok (.iload_n 2, 1) := by decide +kernel
theorem dX5_nodesThere_14 : decode cX5_nodesThere 14 = .ok (.baload, 1) := by decide +kernel
theorem dX5_nodesThere_15 : decode cX5_nodesThere 15 = .ok (.ifCond .eq 6, 3) := by decide +kernel
theorem dX5_nodesThere_18 : decode cX5_nodesThere 18 = .ok (.iinc 1 1, 3) := by decide +kernel
theorem dX5_nodesThere_21 : decode cX5_nodesThere 21 = .ok (.iinc 2 1, 3) := by decide +kernel
theorem dX5_nodesThere_24 : decode cX5_nodesThere 24 = .ok (.goto (-20), 3) := by decide +kernel
theorem dX5_nodesThere_27 : decode cX5_nodesThere 27 = .ok (.iload_n 1, 1) := by decide +kernel
theorem dX5_nodesThere_28 : decode cX5_nodesThere 28 = .ok (.ireturn, 1) := by decide +kernel
theorem dX5_carryOut_0 : decode cX5_carryOut 0 = .ok (.aload_n 0, 1) := by decide +kernel
theorem dX5_carryOut_1 : decode cX5_carryOut 1 = .ok (.getfield 10, 3) := by decide +kernel
theorem dX5_carryOut_4 : decode cX5_carryOut 4 = .ok (.getfield 60, 3) := by decide +kernel
theorem dX5_carryOut_7 : decode cX5_carryOut 7 = .ok (.iload_n 1, 1) := by decide +kernel
theorem dX5_carryOut_8 : decode cX5_carryOut 8 = .ok (.aaload, 1) := by decide +kernel
theorem dX5_carryOut_9 : decode cX5_carryOut 9 = .ok (.astore_n 2, 1) := by decide +kernel
theorem dX5_carryOut_10 : decode cX5_carryOut 10 = .ok (.iconst 0, 1) := by decide +kernel
theorem dX5_carryOut_11 : decode cX5_carryOut 11 = .ok (.istore_n 3, 1) := by decide +kernel
theorem dX5_carryOut_12 : decode cX5_carryOut 12 = .ok (.iload_n 3, 1) := by decide +kernel
theorem dX5_carryOut_13 : decode cX5_carryOut 13 = .ok (.aload_n 0, 1) := by decide +kernel
theorem dX5_carryOut_14 : decode cX5_carryOut 14 = .ok (.getfield 19, 3) := by decide +kernel
theorem dX5_carryOut_17 : decode cX5_carryOut 17 = .ok (.getfield 117, 3) := by decide +kernel
theorem dX5_carryOut_20 : decode cX5_carryOut 20 = .ok (.if_icmp .ge 92, 3) := by decide +kernel
theorem dX5_carryOut_23 : decode cX5_carryOut 23 = .ok (.aload_n 0, 1) := by decide +kernel
theorem dX5_carryOut_24 : decode cX5_carryOut 24 = .ok (.getfield 19, 3) := by decide +kernel
theorem dX5_carryOut_27 : decode cX5_carryOut 27 = .ok (.getfield 258, 3) := by decide +kernel
theorem dX5_carryOut_30 : decode cX5_carryOut 30 = .ok (.iload_n 3, 1) := by decide +kernel
theorem dX5_carryOut_31 : decode cX5_carryOut 31 = .ok (.iaload, 1) := by decide +kernel
theorem dX5_carryOut_32 : decode cX5_carryOut 32 = .ok (.istore 4, 2) := by decide +kernel
theorem dX5_carryOut_34 : decode cX5_carryOut 34 = .ok (.aload_n 0, 1) := by decide +kernel
theorem dX5_carryOut_35 : decode cX5_carryOut 35 = .ok (.getfield 10, 3) := by decide +kernel
theorem dX5_carryOut_38 : decode cX5_carryOut 38 = .ok (.iload 4, 2) := by decide +kernel
theorem dX5_carryOut_40 : decode cX5_carryOut 40 = .ok (.invokevirtual 139, 3) := by decide +kernel
theorem dX5_carryOut_43 : decode cX5_carryOut 43 = .ok (.ifCond .eq 16, 3) := by decide +kernel
theorem dX5_carryOut_46 : decode cX5_carryOut 46 = .ok (.aload_n 0, 1) := by decide +kernel
theorem dX5_carryOut_47 : decode cX5_carryOut 47 = .ok (.getfield 10, 3) := by decide +kernel
theorem dX5_carryOut_50 : decode cX5_carryOut 50 = .ok (.getfield 142, 3) := by decide +kernel
theorem dX5_carryOut_53 : decode cX5_carryOut 53 = .ok (.iload 4, 2) := by decide +kernel
theorem dX5_carryOut_55 : decode cX5_carryOut 55 = .ok (.aaload, 1) := by decide +kernel
theorem dX5_carryOut_56 : decode cX5_carryOut 56 = .ok (.invokevirtual 260, 3) := by decide +kernel
theorem dX5_carryOut_59 : decode cX5_carryOut 59 = .ok (.aload_n 2, 1) := by decide +kernel
theorem dX5_carryOut_60 : decode cX5_carryOut 60 = .ok (.aload_n 2, 1) := by decide +kernel
theorem dX5_carryOut_61 : decode cX5_carryOut 61 = .ok (.getfield 187, 3) := by decide +kernel
theorem dX5_carryOut_64 : decode cX5_carryOut 64 = .ok (.invokevirtual 263, 3) := by decide +kernel
theorem dX5_carryOut_67 : decode cX5_carryOut 67 = .ok (.ifCond .ne 7, 3) := by decide +kernel
theorem dX5_carryOut_70 : decode cX5_carryOut 70 = .ok (.iconst 1, 1) := by decide +kernel
theorem dX5_carryOut_71 : decode cX5_carryOut 71 = .ok (.goto 4, 3) := by decide +kernel
theorem dX5_carryOut_74 : decode cX5_carryOut 74 = .ok (.iconst 0, 1) := by decide +kernel
theorem dX5_carryOut_75 : decode cX5_carryOut 75 = .ok (.istore 5, 2) := by decide +kernel
theorem dX5_carryOut_77 : decode cX5_carryOut 77 = .ok (.aload_n 2, 1) := by decide +kernel
theorem dX5_carryOut_78 : decode cX5_carryOut 78 = .ok (.dup, 1) := by decide +kernel
theorem dX5_carryOut_79 : decode cX5_carryOut 79 = .ok (.getfield 187, 3) := by decide +kernel
theorem dX5_carryOut_82 : decode cX5_carryOut 82 = .ok (.iconst 1, 1) := by decide +kernel
theorem dX5_carryOut_83 : decode cX5_carryOut 83 = .ok (.iadd, 1) := by decide +kernel
theorem dX5_carryOut_84 : decode cX5_carryOut 84 = .ok (.putfield 187, 3) := by decide +kernel
theorem dX5_carryOut_87 : decode cX5_carryOut 87 = .ok (.iload 5, 2) := by decide +kernel
theorem dX5_carryOut_89 : decode cX5_carryOut 89 = .ok (.ifCond .eq 17, 3) := by decide +kernel
theorem dX5_carryOut_92 : decode cX5_carryOut 92 = .ok (.aload_n 0, 1) := by decide +kernel
theorem dX5_carryOut_93 : decode cX5_carryOut 93 = .ok (.iload_n 1, 1) := by decide +kernel
theorem dX5_carryOut_94 : decode cX5_carryOut 94 = .ok (.aload_n 0, 1) := by decide +kernel
theorem dX5_carryOut_95 : decode cX5_carryOut 95 = .ok (.getfield 19, 3) := by decide +kernel
theorem dX5_carryOut_98 : decode cX5_carryOut 98 = .ok (.getfield 266, 3) := by decide +kernel
theorem dX5_carryOut_101 : decode cX5_carryOut 101 = .ok (.iload_n 3, 1) := by decide +kernel
theorem dX5_carryOut_102 : decode cX5_carryOut 102 = .ok (.iaload, 1) := by decide +kernel
theorem dX5_carryOut_103 : decode cX5_carryOut 103 = .ok (.invokevirtual 269, 3) := by decide +kernel
theorem dX5_carryOut_106 : decode cX5_carryOut 106 = .ok (.iinc 3 1, 3) := by decide +kernel
theorem dX5_carryOut_109 : decode cX5_carryOut 109 = .ok (.goto (-97), 3) := by decide +kernel
theorem dX5_carryOut_112 : decode cX5_carryOut 112 = .ok (.return_, 1) := by decide +kernel
theorem dX5_work_0 : decode cX5_work 0 = .ok (.aload_n 0, 1) := by decide +kernel
theorem dX5_work_1 : decode cX5_work 1 = .ok (.getfield 10, 3) := by decide +kernel
theorem dX5_work_4 : decode cX5_work 4 = .ok (.getfield 60, 3) := by decide +kernel
theorem dX5_work_7 : decode cX5_work 7 = .ok (.iload_n 1, 1) := by decide +kernel
theorem dX5_work_8 : decode cX5_work 8 = .ok (.aaload, 1) := by decide +kernel
theorem dX5_work_9 : decode cX5_work 9 = .ok (.astore_n 3, 1) := by decide +kernel
theorem dX5_work_10 : decode cX5_work 10 = .ok (.aload_n 3, 1) := by decide +kernel
theorem dX5_work_11 : decode cX5_work 11 = .ok (.getfield 64, 3) := by decide +kernel
theorem dX5_work_14 : decode cX5_work 14 = .ok (.tableswitch 122 1 5 #[105, 122, 42, 67, 34], 34) := by decide +kernel
theorem dX5_work_48 : decode cX5_work 48 = .ok (.aload_n 3, 1) := by decide +kernel
theorem dX5_work_49 : decode cX5_work 49 = .ok (.iload_n 2, 1) := by decide +kernel
theorem dX5_work_50 : decode cX5_work 50 = .ok (.invokevirtual 273, 3) := by decide +kernel
theorem dX5_work_53 : decode cX5_work 53 = .ok (.goto 100, 3) := by decide +kernel
theorem dX5_work_56 : decode cX5_work 56 = .ok (.aload_n 3, 1) := by decide +kernel
theorem dX5_work_57 : decode cX5_work 57 = .ok (.dup, 1) := by decide +kernel
theorem dX5_work_58 : decode cX5_work 58 = .ok (.getfield 190, 3) := by decide +kernel
theorem dX5_work_61 : decode cX5_work 61 = .ok (.iload_n 2, 1) := by decide +kernel
theorem dX5_work_62 : decode cX5_work 62 = .ok (.iadd, 1) := by decide +kernel
theorem dX5_work_63 : decode cX5_work 63 = .ok (.putfield 190, 3) := by decide +kernel
theorem dX5_work_66 : decode cX5_work 66 = .ok (.aload_n 0, 1) := by decide +kernel
theorem dX5_work_67 : decode cX5_work 67 = .ok (.getfield 10, 3) := by decide +kernel
theorem dX5_work_70 : decode cX5_work 70 = .ok (.iload_n 1, 1) := by decide +kernel
theorem dX5_work_71 : decode cX5_work 71 = .ok (.aload_n 3, 1) := by decide +kernel
theorem dX5_work_72 : decode cX5_work 72 = .ok (.getfield 190, 3) := by decide +kernel
theorem dX5_work_75 : decode cX5_work 75 = .ok (.invokevirtual 276, 3) := by decide +kernel
theorem dX5_work_78 : decode cX5_work 78 = .ok (.goto 75, 3) := by decide +kernel
theorem dX5_work_81 : decode cX5_work 81 = .ok (.aload_n 0, 1) := by decide +kernel
theorem dX5_work_82 : decode cX5_work 82 = .ok (.aload_n 0, 1) := by decide +kernel
theorem dX5_work_83 : decode cX5_work 83 = .ok (.getfield 254, 3) := by decide +kernel
theorem dX5_work_86 : decode cX5_work 86 = .ok (.ldc2_w 279, 3) := by decide +kernel
theorem dX5_work_89 : decode cX5_work 89 = .ok (.lmul, 1) := by decide +kernel
theorem dX5_work_90 : decode cX5_work 90 = .ok (.ldc2_w 281, 3) := by decide +kernel
theorem dX5_work_93 : decode cX5_work 93 = .ok (.lrem, 1) := by decide +kernel
theorem dX5_work_94 : decode cX5_work 94 = .ok (.putfield 254, 3) := by decide +kernel
theorem dX5_work_97 : decode cX5_work 97 = .ok (.aload_n 0, 1) := by decide +kernel
theorem dX5_work_98 : decode cX5_work 98 = .ok (.getfield 10, 3) := by decide +kernel
theorem dX5_work_101 : decode cX5_work 101 = .ok (.iload_n 1, 1) := by decide +kernel
theorem dX5_work_102 : decode cX5_work 102 = .ok (.iload_n 2, 1) := by decide +kernel
theorem dX5_work_103 : decode cX5_work 103 = .ok (.aload_n 0, 1) := by decide +kernel
theorem dX5_work_104 : decode cX5_work 104 = .ok (.getfield 254, 3) := by decide +kernel
theorem dX5_work_107 : decode cX5_work 107 = .ok (.ldc2_w 283, 3) := by decide +kernel
theorem dX5_work_110 : decode cX5_work 110 = .ok (.lrem, 1) := by decide +kernel
theorem dX5_work_111 : decode cX5_work 111 = .ok (.l2i, 1) := by decide +kernel
theorem dX5_work_112 : decode cX5_work 112 = .ok (.iadd, 1) := by decide +kernel
theorem dX5_work_113 : decode cX5_work 113 = .ok (.invokevirtual 276, 3) := by decide +kernel
theorem dX5_work_116 : decode cX5_work 116 = .ok (.goto 37, 3) := by decide +kernel
theorem dX5_work_119 : decode cX5_work 119 = .ok (.aload_n 0, 1) := by decide +kernel
theorem dX5_work_120 : decode cX5_work 120 = .ok (.getfield 10, 3) := by decide +kernel
theorem dX5_work_123 : decode cX5_work 123 = .ok (.iload_n 1, 1) := by decide +kernel
theorem dX5_work_124 : decode cX5_work 124 = .ok (.iload_n 2, 1) := by decide +kernel
theorem dX5_work_125 : decode cX5_work 125 = .ok (.aload_n 3, 1) := by decide +kernel
theorem dX5_work_126 : decode cX5_work 126 = .ok (.getfield 285, 3) := by decide +kernel
theorem dX5_work_129 : decode cX5_work 129 = .ok (.iadd, 1) := by decide +kernel
theorem dX5_work_130 : decode cX5_work 130 = .ok (.invokevirtual 276, 3) := by decide +kernel
theorem dX5_work_133 : decode cX5_work 133 = .ok (.goto 20, 3) := by decide +kernel
theorem dX5_work_136 : decode cX5_work 136 = .ok (.aload_n 3, 1) := by decide +kernel
theorem dX5_work_137 : decode cX5_work 137 = .ok (.iload_n 2, 1) := by decide +kernel
theorem dX5_work_138 : decode cX5_work 138 = .ok (.invokevirtual 288, 3) := by decide +kernel
theorem dX5_work_141 : decode cX5_work 141 = .ok (.ifCond .eq 12, 3) := by decide +kernel
theorem dX5_work_144 : decode cX5_work 144 = .ok (.aload_n 0, 1) := by decide +kernel
theorem dX5_work_145 : decode cX5_work 145 = .ok (.getfield 10, 3) := by decide +kernel
theorem dX5_work_148 : decode cX5_work 148 = .ok (.iload_n 1, 1) := by decide +kernel
theorem dX5_work_149 : decode cX5_work 149 = .ok (.iload_n 2, 1) := by decide +kernel
theorem dX5_work_150 : decode cX5_work 150 = .ok (.invokevirtual 276, 3) := by decide +kernel
theorem dX5_work_153 : decode cX5_work 153 = .ok (.return_, 1) := by decide +kernel
theorem dX5_failAlone_0 : decode cX5_failAlone 0 = .ok (.aload_n 0, 1) := by decide +kernel
theorem dX5_failAlone_1 : decode cX5_failAlone 1 = .ok (.iconst 1, 1) := by decide +kernel
theorem dX5_failAlone_2 : decode cX5_failAlone 2 = .ok (.iload_n 1, 1) := by decide +kernel
theorem dX5_failAlone_3 : decode cX5_failAlone 3 = .ok (.ishl, 1) := by decide +kernel
theorem dX5_failAlone_4 : decode cX5_failAlone 4 = .ok (.iload_n 2, 1) := by decide +kernel
theorem dX5_failAlone_5 : decode cX5_failAlone 5 = .ok (.invokevirtual 127, 3) := by decide +kernel
theorem dX5_failAlone_8 : decode cX5_failAlone 8 = .ok (.istore_n 3, 1) := by decide +kernel
theorem dX5_failAlone_9 : decode cX5_failAlone 9 = .ok (.aload_n 0, 1) := by decide +kernel
theorem dX5_failAlone_10 : decode cX5_failAlone 10 = .ok (.getfield 85, 3) := by decide +kernel
theorem dX5_failAlone_13 : decode cX5_failAlone 13 = .ok (.ifCond .eq 7, 3) := by decide +kernel
theorem dX5_failAlone_16 : decode cX5_failAlone 16 = .ok (.iconst 0, 1) := by decide +kernel
theorem dX5_failAlone_17 : decode cX5_failAlone 17 = .ok (.goto 11, 3) := by decide +kernel
theorem dX5_failAlone_20 : decode cX5_failAlone 20 = .ok (.aload_n 0, 1) := by decide +kernel
theorem dX5_failAlone_21 : decode cX5_failAlone 21 = .ok (.iconst 1, 1) := by decide +kernel
theorem dX5_failAlone_22 : decode cX5_failAlone 22 = .ok (.iload_n 1, 1) := by decide +kernel
theorem dX5_failAlone_23 : decode cX5_failAlone 23 = .ok (.ishl, 1) := by decide +kernel
theorem dX5_failAlone_24 : decode cX5_failAlone 24 = .ok (.iload_n 3, 1) := by decide +kernel
theorem dX5_failAlone_25 : decode cX5_failAlone 25 = .ok (.invokevirtual 136, 3) := by decide +kernel
theorem dX5_failAlone_28 : decode cX5_failAlone 28 = .ok (.ireturn, 1) := by decide +kernel
theorem dX5_blameAll_0 : decode cX5_blameAll 0 = .ok (.iconst 0, 1) := by decide +kernel
theorem dX5_blameAll_1 : decode cX5_blameAll 1 = .ok (.istore_n 3, 1) := by decide +kernel
theorem dX5_blameAll_2 : decode cX5_blameAll 2 = .ok (.iconst 0, 1) := by decide +kernel
theorem dX5_blameAll_3 : decode cX5_blameAll 3 = .ok (.istore 4, 2) := by decide +kernel
theorem dX5_blameAll_5 : decode cX5_blameAll 5 = .ok (.iload 4, 2) := by decide +kernel
theorem dX5_blameAll_7 : decode cX5_blameAll 7 = .ok (.aload_n 0, 1) := by decide +kernel
theorem dX5_blameAll_8 : decode cX5_blameAll 8 = .ok (.getfield 10, 3) := by decide +kernel
theorem dX5_blameAll_11 : decode cX5_blameAll 11 = .ok (.getfield 49, 3) := by decide +kernel
theorem dX5_blameAll_14 : decode cX5_blameAll 14 = .ok (.if_icmp .ge 69, 3) := by decide +kernel
theorem dX5_blameAll_17 : decode cX5_blameAll 17 = .ok (.iload_n 1, 1) := by decide +kernel
theorem dX5_blameAll_18 : decode cX5_blameAll 18 = .ok (.iload 4, 2) := by decide +kernel
theorem dX5_blameAll_20 : decode cX5_blameAll 20 = .ok (.invokestatic 202, 3) := by decide +kernel
theorem dX5_blameAll_23 : decode cX5_blameAll 23 = .ok (.ifCond .eq 54, 3) := by decide +kernel
theorem dX5_blameAll_26 : decode cX5_blameAll 26 = .ok (.aload_n 0, 1) := by decide +kernel
theorem dX5_blameAll_27 : decode cX5_blameAll 27 = .ok (.getfield 26, 3) := by decide +kernel
theorem dX5_blameAll_30 : decode cX5_blameAll 30 = .ok (.iload 4, 2) := by decide +kernel
theorem dX5_blameAll_32 : decode cX5_blameAll 32 = .ok (.aload_n 0, 1) := by decide +kernel
theorem dX5_blameAll_33 : decode cX5_blameAll 33 = .ok (.getfield 88, 3) := by decide +kernel
theorem dX5_blameAll_36 : decode cX5_blameAll 36 = .ok (.iload_n 2, 1) := by decide +kernel
theorem dX5_blameAll_37 : decode cX5_blameAll 37 = .ok (.invokevirtual 291, 3) := by decide +kernel
theorem dX5_blameAll_40 : decode cX5_blameAll 40 = .ok (.aload_n 0, 1) := by decide +kernel
theorem dX5_blameAll_41 : decode cX5_blameAll 41 = .ok (.getfield 10, 3) := by decide +kernel
theorem dX5_blameAll_44 : decode cX5_blameAll 44 = .ok (.getfield 60, 3) := by decide +kernel
theorem dX5_blameAll_47 : decode cX5_blameAll 47 = .ok (.iload 4, 2) := by decide +kernel
theorem dX5_blameAll_49 : decode cX5_blameAll 49 = .ok (.aaload, 1) := by decide +kernel
theorem dX5_blameAll_50 : decode cX5_blameAll 50 = .ok (.dup, 1) := by decide +kernel
theorem dX5_blameAll_51 : decode cX5_blameAll 51 = .ok (.getfield 196, 3) := by decide +kernel
theorem dX5_blameAll_54 : decode cX5_blameAll 54 = .ok (.iconst 1, 1) := by decide +kernel
theorem dX5_blameAll_55 : decode cX5_blameAll 55 = .ok (.iadd, 1) := by decide +kernel
theorem dX5_blameAll_56 : decode cX5_blameAll 56 = .ok (.putfield 196, 3) := by decide +kernel
theorem dX5_blameAll_59 : decode cX5_blameAll 59 = .ok (.iload_n 3, 1) := by decide +kernel
theorem dX5_blameAll_60 : decode cX5_blameAll 60 = .ok (.aload_n 0, 1) := by decide +kernel
theorem dX5_blameAll_61 : decode cX5_blameAll 61 = .ok (.getfield 10, 3) := by decide +kernel
theorem dX5_blameAll_64 : decode cX5_blameAll 64 = .ok (.getfield 60, 3) := by decide +kernel
theorem dX5_blameAll_67 : decode cX5_blameAll 67 = .ok (.iload 4, 2) := by decide +kernel
theorem dX5_blameAll_69 : decode cX5_blameAll 69 = .ok (.aaload, 1) := by decide +kernel
theorem dX5_blameAll_70 : decode cX5_blameAll 70 = .ok (.getfield 196, 3) := by decide +kernel
theorem dX5_blameAll_73 : decode cX5_blameAll 73 = .ok (.invokestatic 295, 3) := by decide +kernel
theorem dX5_blameAll_76 : decode cX5_blameAll 76 = .ok (.istore_n 3, 1) := by decide +kernel
theorem dX5_blameAll_77 : decode cX5_blameAll 77 = .ok (.iinc 4 1, 3) := by decide +kernel
theorem dX5_blameAll_80 : decode cX5_blameAll 80 = .ok (.goto (-75), 3) := by decide +kernel
theorem dX5_blameAll_83 : decode cX5_blameAll 83 = .ok (.iload_n 3, 1) := by decide +kernel
theorem dX5_blameAll_84 : decode cX5_blameAll 84 = .ok (.aload_n 0, 1) := by decide +kernel
theorem dX5_blameAll_85 : decode cX5_blameAll 85 = .ok (.getfield 79, 3) := by decide +kernel
theorem dX5_blameAll_88 : decode cX5_blameAll 88 = .ok (.if_icmp .le 8, 3) := by decide +kernel
theorem dX5_blameAll_91 : decode cX5_blameAll 91 = .ok (.aload_n 0, 1) := by decide +kernel
theorem dX5_blameAll_92 : decode cX5_blameAll 92 = .ok (.iconst 1, 1) := by decide +kernel
theorem dX5_blameAll_93 : decode cX5_blameAll 93 = .ok (.putfield 85, 3) := by decide +kernel
theorem dX5_blameAll_96 : decode cX5_blameAll 96 = .ok (.iload_n 3, 1) := by decide +kernel
theorem dX5_blameAll_97 : decode cX5_blameAll 97 = .ok (.ireturn, 1) := by decide +kernel
theorem dX5_beginAgain_0 : decode cX5_beginAgain 0 = .ok (.aload_n 0, 1) := by decide +kernel
theorem dX5_beginAgain_1 : decode cX5_beginAgain 1 = .ok (.getfield 10, 3) := by decide +kernel
theorem dX5_beginAgain_4 : decode cX5_beginAgain 4 = .ok (.iload_n 1, 1) := by decide +kernel
theorem dX5_beginAgain_5 : decode cX5_beginAgain 5 = .ok (.invokevirtual 181, 3) := by decide +kernel
theorem dX5_beginAgain_8 : decode cX5_beginAgain 8 = .ok (.istore_n 3, 1) := by decide +kernel
theorem dX5_beginAgain_9 : decode cX5_beginAgain 9 = .ok (.aload_n 0, 1) := by decide +kernel
theorem dX5_beginAgain_10 : decode cX5_beginAgain 10 = .ok (.getfield 10, 3) := by decide +kernel
theorem dX5_beginAgain_13 : decode cX5_beginAgain 13 = .ok (.iload_n 3, 1) := by decide +kernel
theorem dX5_beginAgain_14 : decode cX5_beginAgain 14 = .ok (.aload_n 0, 1) := by decide +kernel
theorem dX5_beginAgain_15 : decode cX5_beginAgain 15 = .ok (.getfield 88, 3) := by decide +kernel
theorem dX5_beginAgain_18 : decode cX5_beginAgain 18 = .ok (.iload_n 2, 1) := by decide +kernel
theorem dX5_beginAgain_19 : decode cX5_beginAgain 19 = .ok (.invokestatic 298, 3) := by decide +kernel
theorem dX5_beginAgain_22 : decode cX5_beginAgain 22 = .ok (.iadd, 1) := by decide +kernel
theorem dX5_beginAgain_23 : decode cX5_beginAgain 23 = .ok (.invokevirtual 301, 3) := by decide +kernel
theorem dX5_beginAgain_26 : decode cX5_beginAgain 26 = .ok (.iload_n 3, 1) := by decide +kernel
theorem dX5_beginAgain_27 : decode cX5_beginAgain 27 = .ok (.invokestatic 246, 3) := by decide +kernel
theorem dX5_beginAgain_30 : decode cX5_beginAgain 30 = .ok (.istore 4, 2) := by decide +kernel
theorem dX5_beginAgain_32 : decode cX5_beginAgain 32 = .ok (.aload_n 0, 1) := by decide +kernel
theorem dX5_beginAgain_33 : decode cX5_beginAgain 33 = .ok (.dup, 1) := by decide +kernel
theorem dX5_beginAgain_34 : decode cX5_beginAgain 34 = .ok (.getfield 251, 3) := by decide +kernel
theorem dX5_beginAgain_37 : decode cX5_beginAgain 37 = .ok (.iload 4, 2) := by decide +kernel
theorem dX5_beginAgain_39 : decode cX5_beginAgain 39 = .ok (.iadd, 1) := by decide +kernel
theorem dX5_beginAgain_40 : decode cX5_beginAgain 40 = .ok (.putfield 251, 3) := by decide +kernel
theorem dX5_beginAgain_43 : decode cX5_beginAgain 43 = .ok (.iload 4, 2) := by decide +kernel
theorem dX5_beginAgain_45 : decode cX5_beginAgain 45 = .ok (.ireturn, 1) := by decide +kernel
theorem dX5_waitAfter_0 : decode cX5_waitAfter 0 = .ok (.iload_n 0, 1) := by decide +kernel
theorem dX5_waitAfter_1 : decode cX5_waitAfter 1 = .ok (.iconst 1, 1) := by decide +kernel
theorem dX5_waitAfter_2 : decode cX5_waitAfter 2 = .ok (.if_icmp .lt 8, 3) := by decide +kernel
theorem dX5_waitAfter_5 : decode cX5_waitAfter 5 = .ok (.iload_n 0, 1) := by decide +kernel
theorem dX5_waitAfter_6 : decode cX5_waitAfter 6 = .ok (.iconst 5, 1) := by decide +kernel
theorem dX5_waitAfter_7 : decode cX5_waitAfter 7 = .ok (.if_icmp .le 8, 3) := by decide +kernel
theorem dX5_waitAfter_10 : decode cX5_waitAfter 10 = .ok (.bipush 16, 2) := by decide +kernel
theorem dX5_waitAfter_12 : decode cX5_waitAfter 12 = .ok (.goto 13, 3) := by decide +kernel
theorem dX5_waitAfter_15 : decode cX5_waitAfter 15 = .ok (.bipush 16, 2) := by decide +kernel
theorem dX5_waitAfter_17 : decode cX5_waitAfter 17 = .ok (.iconst 1, 1) := by decide +kernel
theorem dX5_waitAfter_18 : decode cX5_waitAfter 18 = .ok (.iload_n 0, 1) := by decide +kernel
theorem dX5_waitAfter_19 : decode cX5_waitAfter 19 = .ok (.iconst 1, 1) := by decide +kernel
theorem dX5_waitAfter_20 : decode cX5_waitAfter 20 = .ok (.isub, 1) := by decide +kernel
theorem dX5_waitAfter_21 : decode cX5_waitAfter 21 = .ok (.ishl, 1) := by decide +kernel
theorem dX5_waitAfter_22 : decode cX5_waitAfter 22 = .ok (.invokestatic 167, 3) := by decide +kernel
theorem dX5_waitAfter_25 : decode cX5_waitAfter 25 = .ok (.ireturn, 1) := by decide +kernel
theorem dX5_moveAway_0 : decode cX5_moveAway 0 = .ok (.iconst 0, 1) := by decide +kernel
theorem dX5_moveAway_1 : decode cX5_moveAway 1 = .ok (.istore_n 2, 1) := by decide +kernel
theorem dX5_moveAway_2 : decode cX5_moveAway 2 = .ok (.iload_n 2, 1) := by decide +kernel
theorem dX5_moveAway_3 : decode cX5_moveAway 3 = .ok (.aload_n 0, 1) := by decide +kernel
theorem dX5_moveAway_4 : decode cX5_moveAway 4 = .ok (.getfield 10, 3) := by decide +kernel
theorem dX5_moveAway_7 : decode cX5_moveAway 7 = .ok (.getfield 49, 3) := by decide +kernel
theorem dX5_moveAway_10 : decode cX5_moveAway 10 = .ok (.if_icmp .ge 45, 3) := by decide +kernel
theorem dX5_moveAway_13 : decode cX5_moveAway 13 = .ok (.iload_n 1, 1) := by decide +kernel
theorem dX5_moveAway_14 : decode cX5_moveAway 14 = .ok (.iload_n 2, 1) := by decide +kernel
theorem dX5_moveAway_15 : decode cX5_moveAway 15 = .ok (.invokestatic 202, 3) := by decide +kernel
theorem dX5_moveAway_18 : decode cX5_moveAway 18 = .ok (.ifCond .eq 31, 3) := by decide +kernel
theorem dX5_moveAway_21 : decode cX5_moveAway 21 = .ok (.aload_n 0, 1) := by decide +kernel
theorem dX5_moveAway_22 : decode cX5_moveAway 22 = .ok (.getfield 10, 3) := by decide +kernel
theorem dX5_moveAway_25 : decode cX5_moveAway 25 = .ok (.getfield 60, 3) := by decide +kernel
theorem dX5_moveAway_28 : decode cX5_moveAway 28 = .ok (.iload_n 2, 1) := by decide +kernel
theorem dX5_moveAway_29 : decode cX5_moveAway 29 = .ok (.aaload, 1) := by decide +kernel
theorem dX5_moveAway_30 : decode cX5_moveAway 30 = .ok (.aload_n 0, 1) := by decide +kernel
theorem dX5_moveAway_31 : decode cX5_moveAway 31 = .ok (.aload_n 0, 1) := by decide +kernel
theorem dX5_moveAway_32 : decode cX5_moveAway 32 = .ok (.getfield 10, 3) := by decide +kernel
theorem dX5_moveAway_35 : decode cX5_moveAway 35 = .ok (.getfield 60, 3) := by decide +kernel
theorem dX5_moveAway_38 : decode cX5_moveAway 38 = .ok (.iload_n 2, 1) := by decide +kernel
theorem dX5_moveAway_39 : decode cX5_moveAway 39 = .ok (.aaload, 1) := by decide +kernel
theorem dX5_moveAway_40 : decode cX5_moveAway 40 = .ok (.getfield 184, 3) := by decide +kernel
theorem dX5_moveAway_43 : decode cX5_moveAway 43 = .ok (.invokevirtual 304, 3) := by decide +kernel
theorem dX5_moveAway_46 : decode cX5_moveAway 46 = .ok (.putfield 184, 3) := by decide +kernel
theorem dX5_moveAway_49 : decode cX5_moveAway 49 = .ok (.iinc 2 1, 3) := by decide +kernel
theorem dX5_moveAway_52 : decode cX5_moveAway 52 = .ok (.goto (-50), 3) := by decide +kernel
theorem dX5_moveAway_55 : decode cX5_moveAway 55 = .ok (.return_, 1) := by decide +kernel
theorem dX5_emptiestNode_0 : decode cX5_emptiestNode 0 = .ok (.iload_n 1, 1) := by decide +kernel
theorem dX5_emptiestNode_1 : decode cX5_emptiestNode 1 = .ok (.istore_n 2, 1) := by decide +kernel
theorem dX5_emptiestNode_2 : decode cX5_emptiestNode 2 = .ok (.bipush 17, 2) := by decide +kernel
theorem dX5_emptiestNode_4 : decode cX5_emptiestNode 4 = .ok (.istore_n 3, 1) := by decide +kernel
theorem dX5_emptiestNode_5 : decode cX5_emptiestNode 5 = .ok (.iconst 0, 1) := by decide +kernel
theorem dX5_emptiestNode_6 : decode cX5_emptiestNode 6 = .ok (.istore 4, 2) := by decide +kernel
theorem dX5_emptiestNode_8 : decode cX5_emptiestNode 8 = .ok (.iload 4, 2) := by decide +kernel
theorem dX5_emptiestNode_10 : decode cX5_emptiestNode 10 = .ok (.iconst 4, 1) := by decide +kernel
theorem dX5_emptiestNode_11 : decode cX5_emptiestNode 11 = .ok (.if_icmp .ge 45, 3) := by decide +kernel
theorem dX5_emptiestNode_14 : decode cX5_emptiestNode 14 = .ok (.aload_n 0, 1) := by decide +kernel
theorem dX5_emptiestNode_15 : decode cX5_emptiestNode 15 = .ok (.getfield 10, 3) := by decide +kernel
theorem dX5_emptiestNode_18 : decode cX5_emptiestNode 18 = .ok (.iload 4, 2) := by decide +kernel
theorem dX5_emptiestNode_20 : decode cX5_emptiestNode 20 = .ok (.invokevirtual 124, 3) := by decide +kernel
theorem dX5_emptiestNode_23 : decode cX5_emptiestNode 23 = .ok (.invokestatic 246, 3) := by decide +kernel
theorem dX5_emptiestNode_26 : decode cX5_emptiestNode 26 = .ok (.istore 5, 2) := by decide +kernel
theorem dX5_emptiestNode_28 : decode cX5_emptiestNode 28 = .ok (.aload_n 0, 1) := by decide +kernel
theorem dX5_emptiestNode_29 : decode cX5_emptiestNode 29 = .ok (.getfield 30, 3) := by decide +kernel
theorem dX5_emptiestNode_32 : decode cX5_emptiestNode 32 = .ok (.iload 4, 2) := by decide +kernel
theorem dX5_emptiestNode_34 : decode cX5_emptiestNode 34 = .ok (.baload, 1) := by decide +kernel
theorem dX5_emptiestNode_35 : decode cX5_emptiestNode 35 = .ok (.ifCond .eq 15, 3) := by decide +kernel
theorem dX5_emptiestNode_38 : decode cX5_emptiestNode 38 = .ok (.iload 5, 2) := by decide +kernel
theorem dX5_emptiestNode_40 : decode cX5_emptiestNode 40 = .ok (.iload_n 3, 1) := by decide +kernel
theorem dX5_emptiestNode_41 : decode cX5_emptiestNode 41 = .ok (.if_icmp .ge 9, 3) := by decide +kernel
theorem dX5_emptiestNode_44 : decode cX5_emptiestNode 44 = .ok (.iload 4, 2) := by decide +kernel
theorem dX5_emptiestNode_46 : decode cX5_emptiestNode 46 = .ok (.istore_n 2, 1) := by decide +kernel
theorem dX5_emptiestNode_47 : decode cX5_emptiestNode 47 = .ok (.iload 5, 2) := by decide +kernel
theorem dX5_emptiestNode_49 : decode cX5_emptiestNode 49 = .ok (.istore_n 3, 1) := by decide +kernel
theorem dX5_emptiestNode_50 : decode cX5_emptiestNode 50 = .ok (.iinc 4 1, 3) := by decide +kernel
theorem dX5_emptiestNode_53 : decode cX5_emptiestNode 53 = .ok (.goto (-45), 3) := by decide +kernel
theorem dX5_emptiestNode_56 : decode cX5_emptiestNode 56 = .ok (.iload_n 2, 1) := by decide +kernel
theorem dX5_emptiestNode_57 : decode cX5_emptiestNode 57 = .ok (.ireturn, 1) := by decide +kernel
theorem dX6_init_0 : decode cX6_init 0 = .ok (.aload_n 0, 1) := by decide +kernel
theorem dX6_init_1 : decode cX6_init 1 = .ok (.invokespecial 1, 3) := by decide +kernel
theorem dX6_init_4 : decode cX6_init 4 = .ok (.aload_n 0, 1) := by decide +kernel
theorem dX6_init_5 : decode cX6_init 5 = .ok (.bipush 16, 2) := by decide +kernel
theorem dX6_init_7 : decode cX6_init 7 = .ok (.newarray .int, 2) := by decide +kernel
theorem dX6_init_9 : decode cX6_init 9 = .ok (.putfield 7, 3) := by decide +kernel
theorem dX6_init_12 : decode cX6_init 12 = .ok (.aload_n 0, 1) := by decide +kernel
theorem dX6_init_13 : decode cX6_init 13 = .ok (.bipush 16, 2) := by decide +kernel
theorem dX6_init_15 : decode cX6_init 15 = .ok (.newarray .int, 2) := by decide +kernel
theorem dX6_init_17 : decode cX6_init 17 = .ok (.putfield 13, 3) := by decide +kernel
theorem dX6_init_20 : decode cX6_init 20 = .ok (.aload_n 0, 1) := by decide +kernel
theorem dX6_init_21 : decode cX6_init 21 = .ok (.bipush 16, 2) := by decide +kernel
theorem dX6_init_23 : decode cX6_init 23 = .ok (.newarray .int, 2) := by decide +kernel
theorem dX6_init_25 : decode cX6_init 25 = .ok (.putfield 16, 3) := by decide +kernel
theorem dX6_init_28 : decode cX6_init 28 = .ok (.aload_n 0, 1) := by decide +kernel
theorem dX6_init_29 : decode cX6_init 29 = .ok (.bipush 16, 2) := by decide +kernel
theorem dX6_init_31 : decode cX6_init 31 = .ok (.newarray .int, 2) := by decide +kernel
theorem dX6_init_33 : decode cX6_init 33 = .ok (.putfield 19, 3) := by decide +kernel
theorem dX6_init_36 : decode cX6_init 36 = .ok (.aload_n 0, 1) := by decide +kernel
theorem dX6_init_37 : decode cX6_init 37 = .ok (.bipush 16, 2) := by decide +kernel
theorem dX6_init_39 : decode cX6_init 39 = .ok (.newarray .int, 2) := by decide +kernel
theorem dX6_init_41 : decode cX6_init 41 = .ok (.putfield 22, 3) := by decide +kernel
theorem dX6_init_44 : decode cX6_init 44 = .ok (.aload_n 0, 1) := by decide +kernel
theorem dX6_init_45 : decode cX6_init 45 = .ok (.bipush 16, 2) := by decide +kernel
theorem dX6_init_47 : decode cX6_init 47 = .ok (.newarray .int, 2) := by decide +kernel
theorem dX6_init_49 : decode cX6_init 49 = .ok (.putfield 25, 3) := by decide +kernel
theorem dX6_init_52 : decode cX6_init 52 = .ok (.aload_n 0, 1) := by decide +kernel
theorem dX6_init_53 : decode cX6_init 53 = .ok (.sipush 3200, 3) := by decide +kernel
theorem dX6_init_56 : decode cX6_init 56 = .ok (.newarray .int, 2) := by decide +kernel
theorem dX6_init_58 : decode cX6_init 58 = .ok (.putfield 28, 3) := by decide +kernel
theorem dX6_init_61 : decode cX6_init 61 = .ok (.aload_n 0, 1) := by decide +kernel
theorem dX6_init_62 : decode cX6_init 62 = .ok (.bipush 16, 2) := by decide +kernel
theorem dX6_init_64 : decode cX6_init 64 = .ok (.newarray .int, 2) := by decide +kernel
theorem dX6_init_66 : decode cX6_init 66 = .ok (.putfield 31, 3) := by decide +kernel
theorem dX6_init_69 : decode cX6_init 69 = .ok (.aload_n 0, 1) := by decide +kernel
theorem dX6_init_70 : decode cX6_init 70 = .ok (.bipush 16, 2) := by decide +kernel
theorem dX6_init_72 : decode cX6_init 72 = .ok (.newarray .int, 2) := by decide +kernel
theorem dX6_init_74 : decode cX6_init 74 = .ok (.putfield 34, 3) := by decide +kernel
theorem dX6_init_77 : decode cX6_init 77 = .ok (.aload_n 0, 1) := by decide +kernel
theorem dX6_init_78 : decode cX6_init 78 = .ok (.bipush 16, 2) := by decide +kernel
theorem dX6_init_80 : decode cX6_init 80 = .ok (.newarray .int, 2) := by decide +kernel
theorem dX6_init_82 : decode cX6_init 82 = .ok (.putfield 37, 3) := by decide +kernel
theorem dX6_init_85 : decode cX6_init 85 = .ok (.aload_n 0, 1) := by decide +kernel
theorem dX6_init_86 : decode cX6_init 86 = .ok (.bipush 16, 2) := by decide +kernel
theorem dX6_init_88 : decode cX6_init 88 = .ok (.newarray .int, 2) := by decide +kernel
theorem dX6_init_90 : decode cX6_init 90 = .ok (.putfield 40, 3) := by decide +kernel
theorem dX6_init_93 : decode cX6_init 93 = .ok (.aload_n 0, 1) := by decide +kernel
theorem dX6_init_94 : decode cX6_init 94 = .ok (.bipush 16, 2) := by decide +kernel
theorem dX6_init_96 : decode cX6_init 96 = .ok (.newarray .int, 2) := by decide +kernel
theorem dX6_init_98 : decode cX6_init 98 = .ok (.putfield 43, 3) := by decide +kernel
theorem dX6_init_101 : decode cX6_init 101 = .ok (.aload_n 0, 1) := by decide +kernel
theorem dX6_init_102 : decode cX6_init 102 = .ok (.sipush 128, 3) := by decide +kernel
