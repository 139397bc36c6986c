theorem dX3_add_55 : decode cX3_add 55 = .ok (.getfield 9, 3) := by decide +kernel
theorem dX3_add_58 : decode cX3_add 58 = .ok (.aload_n 0, 1) := by decide +kernel
theorem dX3_add_59 : decode cX3_add 59 = .ok (.getfield 18, 3) := by decide +kernel
theorem dX3_add_62 : decode cX3_add 62 = .ok (.iload_n 3, 1) := by decide +kernel
theorem dX3_add_63 : decode cX3_add 63 = .ok (.iastore, 1) := by decide +kernel
theorem dX3_add_64 : decode cX3_add 64 = .ok (.aload_n 0, 1) := by decide +kernel
theorem dX3_add_65 : decode cX3_add 65 = .ok (.getfield 15, 3) := by decide +kernel
theorem dX3_add_68 : decode cX3_add 68 = .ok (.aload_n 0, 1) := by decide +kernel
theorem dX3_add_69 : decode cX3_add 69 = .ok (.getfield 18, 3) := by decide +kernel
theorem dX3_add_72 : decode cX3_add 72 = .ok (.iload_n 2, 1) := by decide +kernel
theorem dX3_add_73 : decode cX3_add 73 = .ok (.iastore, 1) := by decide +kernel
theorem dX3_add_74 : decode cX3_add 74 = .ok (.aload_n 0, 1) := by decide +kernel
theorem dX3_add_75 : decode cX3_add 75 = .ok (.dup, 1) := by decide +kernel
theorem dX3_add_76 : decode cX3_add 76 = .ok (.getfield 18, 3) := by decide +kernel
theorem dX3_add_79 : decode cX3_add 79 = .ok (.iconst 1, 1) := by decide +kernel
theorem dX3_add_80 : decode cX3_add 80 = .ok (.iadd, 1) := by decide +kernel
theorem dX3_add_81 : decode cX3_add 81 = .ok (.putfield 18, 3) := by decide +kernel
theorem dX3_add_84 : decode cX3_add 84 = .ok (.return_, 1) := by decide +kernel
theorem dX4_init_0 : decode cX4_init 0 = .ok (.aload_n 0, 1) := by decide +kernel
theorem dX4_init_1 : decode cX4_init 1 = .ok (.invokespecial 3, 3) := by decide +kernel
theorem dX4_init_4 : decode cX4_init 4 = .ok (.aload_n 0, 1) := by decide +kernel
theorem dX4_init_5 : decode cX4_init 5 = .ok (.sipush 200, 3) := by decide +kernel
theorem dX4_init_8 : decode cX4_init 8 = .ok (.newarray .int, 2) := by decide +kernel
theorem dX4_init_10 : decode cX4_init 10 = .ok (.putfield 9, 3) := by decide +kernel
theorem dX4_init_13 : decode cX4_init 13 = .ok (.aload_n 0, 1) := by decide +kernel
theorem dX4_init_14 : decode cX4_init 14 = .ok (.bipush 8, 2) := by decide +kernel
theorem dX4_init_16 : decode cX4_init 16 = .ok (.newarray .int, 2) := by decide +kernel
theorem dX4_init_18 : decode cX4_init 18 = .ok (.putfield 15, 3) := by decide +kernel
theorem dX4_init_21 : decode cX4_init 21 = .ok (.return_, 1) := by decide +kernel
theorem dX4_set_0 : decode cX4_set 0 = .ok (.aload_n 0, 1) := by decide +kernel
theorem dX4_set_1 : decode cX4_set 1 = .ok (.iload_n 1, 1) := by decide +kernel
theorem dX4_set_2 : decode cX4_set 2 = .ok (.putfield 18, 3) := by decide +kernel
theorem dX4_set_5 : decode cX4_set 5 = .ok (.aload_n 0, 1) := by decide +kernel
theorem dX4_set_6 : decode cX4_set 6 = .ok (.iload_n 2, 1) := by decide +kernel
theorem dX4_set_7 : decode cX4_set 7 = .ok (.putfield 22, 3) := by decide +kernel
theorem dX4_set_10 : decode cX4_set 10 = .ok (.aload_n 0, 1) := by decide +kernel
theorem dX4_set_11 : decode cX4_set 11 = .ok (.iload_n 3, 1) := by decide +kernel
theorem dX4_set_12 : decode cX4_set 12 = .ok (.putfield 25, 3) := by decide +kernel
theorem dX4_set_15 : decode cX4_set 15 = .ok (.aload_n 0, 1) := by decide +kernel
theorem dX4_set_16 : decode cX4_set 16 = .ok (.iconst 0, 1) := by decide +kernel
theorem dX4_set_17 : decode cX4_set 17 = .ok (.putfield 28, 3) := by decide +kernel
theorem dX4_set_20 : decode cX4_set 20 = .ok (.aload_n 0, 1) := by decide +kernel
theorem dX4_set_21 : decode cX4_set 21 = .ok (.sipush 1001, 3) := by decide +kernel
theorem dX4_set_24 : decode cX4_set 24 = .ok (.putfield 31, 3) := by decide +kernel
theorem dX4_set_27 : decode cX4_set 27 = .ok (.aload_n 0, 1) := by decide +kernel
theorem dX4_set_28 : decode cX4_set 28 = .ok (.bipush 8, 2) := by decide +kernel
theorem dX4_set_30 : decode cX4_set 30 = .ok (.putfield 34, 3) := by decide +kernel
theorem dX4_set_33 : decode cX4_set 33 = .ok (.aload_n 0, 1) := by decide +kernel
theorem dX4_set_34 : decode cX4_set 34 = .ok (.iconst 0, 1) := by decide +kernel
theorem dX4_set_35 : decode cX4_set 35 = .ok (.putfield 37, 3) := by decide +kernel
theorem dX4_set_38 : decode cX4_set 38 = .ok (.aload_n 0, 1) := by decide +kernel
theorem dX4_set_39 : decode cX4_set 39 = .ok (.iconst 0, 1) := by decide +kernel
theorem dX4_set_40 : decode cX4_set 40 = .ok (.putfield 40, 3) := by decide +kernel
theorem dX4_set_43 : decode cX4_set 43 = .ok (.aload_n 0, 1) := by decide +kernel
theorem dX4_set_44 : decode cX4_set 44 = .ok (.iconst 0, 1) := by decide +kernel
theorem dX4_set_45 : decode cX4_set 45 = .ok (.putfield 43, 3) := by decide +kernel
theorem dX4_set_48 : decode cX4_set 48 = .ok (.aload_n 0, 1) := by decide +kernel
theorem dX4_set_49 : decode cX4_set 49 = .ok (.iconst 0, 1) := by decide +kernel
theorem dX4_set_50 : decode cX4_set 50 = .ok (.putfield 46, 3) := by decide +kernel
theorem dX4_set_53 : decode cX4_set 53 = .ok (.aload_n 0, 1) := by decide +kernel
theorem dX4_set_54 : decode cX4_set 54 = .ok (.iconst 0, 1) := by decide +kernel
theorem dX4_set_55 : decode cX4_set 55 = .ok (.putfield 49, 3) := by decide +kernel
theorem dX4_set_58 : decode cX4_set 58 = .ok (.aload_n 0, 1) := by decide +kernel
theorem dX4_set_59 : decode cX4_set 59 = .ok (.iconst 0, 1) := by decide +kernel
theorem dX4_set_60 : decode cX4_set 60 = .ok (.putfield 52, 3) := by decide +kernel
theorem dX4_set_63 : decode cX4_set 63 = .ok (.aload_n 0, 1) := by decide +kernel
theorem dX4_set_64 : decode cX4_set 64 = .ok (.invokevirtual 55, 3) := by decide +kernel
theorem dX4_set_67 : decode cX4_set 67 = .ok (.return_, 1) := by decide +kernel
theorem dX4_keepAsMark_0 : decode cX4_keepAsMark 0 = .ok (.aload_n 0, 1) := by decide +kernel
theorem dX4_keepAsMark_1 : decode cX4_keepAsMark 1 = .ok (.aload_n 0, 1) := by decide +kernel
theorem dX4_keepAsMark_2 : decode cX4_keepAsMark 2 = .ok (.getfield 46, 3) := by decide +kernel
theorem dX4_keepAsMark_5 : decode cX4_keepAsMark 5 = .ok (.putfield 58, 3) := by decide +kernel
theorem dX4_keepAsMark_8 : decode cX4_keepAsMark 8 = .ok (.aload_n 0, 1) := by decide +kernel
theorem dX4_keepAsMark_9 : decode cX4_keepAsMark 9 = .ok (.aload_n 0, 1) := by decide +kernel
theorem dX4_keepAsMark_10 : decode cX4_keepAsMark 10 = .ok (.getfield 49, 3) := by decide +kernel
theorem dX4_keepAsMark_13 : decode cX4_keepAsMark 13 = .ok (.putfield 61, 3) := by decide +kernel
theorem dX4_keepAsMark_16 : decode cX4_keepAsMark 16 = .ok (.aload_n 0, 1) := by decide +kernel
theorem dX4_keepAsMark_17 : decode cX4_keepAsMark 17 = .ok (.aload_n 0, 1) := by decide +kernel
theorem dX4_keepAsMark_18 : decode cX4_keepAsMark 18 = .ok (.getfield 52, 3) := by decide +kernel
theorem dX4_keepAsMark_21 : decode cX4_keepAsMark 21 = .ok (.putfield 64, 3) := by decide +kernel
theorem dX4_keepAsMark_24 : decode cX4_keepAsMark 24 = .ok (.return_, 1) := by decide +kernel
theorem dX4_rewind_0 : decode cX4_rewind 0 = .ok (.aload_n 0, 1) := by decide +kernel
theorem dX4_rewind_1 : decode cX4_rewind 1 = .ok (.aload_n 0, 1) := by decide +kernel
theorem dX4_rewind_2 : decode cX4_rewind 2 = .ok (.getfield 58, 3) := by decide +kernel
theorem dX4_rewind_5 : decode cX4_rewind 5 = .ok (.putfield 46, 3) := by decide +kernel
theorem dX4_rewind_8 : decode cX4_rewind 8 = .ok (.aload_n 0, 1) := by decide +kernel
theorem dX4_rewind_9 : decode cX4_rewind 9 = .ok (.aload_n 0, 1) := by decide +kernel
theorem dX4_rewind_10 : decode cX4_rewind 10 = .ok (.getfield 61, 3) := by decide +kernel
theorem dX4_rewind_13 : decode cX4_rewind 13 = .ok (.putfield 49, 3) := by decide +kernel
theorem dX4_rewind_16 : decode cX4_rewind 16 = .ok (.aload_n 0, 1) := by decide +kernel
theorem dX4_rewind_17 : decode cX4_rewind 17 = .ok (.aload_n 0, 1) := by decide +kernel
theorem dX4_rewind_18 : decode cX4_rewind 18 = .ok (.getfield 64, 3) := by decide +kernel
theorem dX4_rewind_21 : decode cX4_rewind 21 = .ok (.putfield 52, 3) := by decide +kernel
theorem dX4_rewind_24 : decode cX4_rewind 24 = .ok (.aload_n 0, 1) := by decide +kernel
theorem dX4_rewind_25 : decode cX4_rewind 25 = .ok (.aload_n 0, 1) := by decide +kernel
theorem dX4_rewind_26 : decode cX4_rewind 26 = .ok (.getfield 40, 3) := by decide +kernel
theorem dX4_rewind_29 : decode cX4_rewind 29 = .ok (.iload_n 1, 1) := by decide +kernel
theorem dX4_rewind_30 : decode cX4_rewind 30 = .ok (.invokestatic 67, 3) := by decide +kernel
theorem dX4_rewind_33 : decode cX4_rewind 33 = .ok (.putfield 40, 3) := by decide +kernel
theorem dX4_rewind_36 : decode cX4_rewind 36 = .ok (.return_, 1) := by decide +kernel
theorem dX4_waitsStill_0 : decode cX4_waitsStill 0 = .ok (.iconst 0, 1) := by decide +kernel
theorem dX4_waitsStill_1 : decode cX4_waitsStill 1 = .ok (.aload_n 0, 1) := by decide +kernel
theorem dX4_waitsStill_2 : decode cX4_waitsStill 2 = .ok (.getfield 40, 3) := by decide +kernel
theorem dX4_waitsStill_5 : decode cX4_waitsStill 5 = .ok (.iload_n 1, 1) := by decide +kernel
theorem dX4_waitsStill_6 : decode cX4_waitsStill 6 = .ok (.isub, 1) := by decide +kernel
theorem dX4_waitsStill_7 : decode cX4_waitsStill 7 = .ok (.invokestatic 67, 3) := by decide +kernel
theorem dX4_waitsStill_10 : decode cX4_waitsStill 10 = .ok (.ireturn, 1) := by decide +kernel
theorem dX4_isAside_0 : decode cX4_isAside 0 = .ok (.iconst 0, 1) := by decide +kernel
theorem dX4_isAside_1 : decode cX4_isAside 1 = .ok (.istore_n 2, 1) := by decide +kernel
theorem dX4_isAside_2 : decode cX4_isAside 2 = .ok (.iload_n 2, 1) := by decide +kernel
theorem dX4_isAside_3 : decode cX4_isAside 3 = .ok (.aload_n 0, 1) := by decide +kernel
theorem dX4_isAside_4 : decode cX4_isAside 4 = .ok (.getfield 43, 3) := by decide +kernel
theorem dX4_isAside_7 : decode cX4_isAside 7 = .ok (.if_icmp .ge 21, 3) := by decide +kernel
theorem dX4_isAside_10 : decode cX4_isAside 10 = .ok (.aload_n 0, 1) := by decide +kernel
theorem dX4_isAside_11 : decode cX4_isAside 11 = .ok (.getfield 15, 3) := by decide +kernel
theorem dX4_isAside_14 : decode cX4_isAside 14 = .ok (.iload_n 2, 1) := by decide +kernel
theorem dX4_isAside_15 : decode cX4_isAside 15 = .ok (.iaload, 1) := by decide +kernel
theorem dX4_isAside_16 : decode cX4_isAside 16 = .ok (.iload_n 1, 1) := by decide +kernel
theorem dX4_isAside_17 : decode cX4_isAside 17 = .ok (.if_icmp .ne 5, 3) := by decide +kernel
theorem dX4_isAside_20 : decode cX4_isAside 20 = .ok (.iconst 1, 1) := by decide +kernel
theorem dX4_isAside_21 : decode cX4_isAside 21 = .ok (.ireturn, 1) := by decide +kernel
theorem dX4_isAside_22 : decode cX4_isAside 22 = .ok (.iinc 2 1, 3) := by decide +kernel
theorem dX4_isAside_25 : decode cX4_isAside 25 = .ok (.goto (-23), 3) := by decide +kernel
theorem dX4_isAside_28 : decode cX4_isAside 28 = .ok (.iconst 0, 1) := by decide +kernel
theorem dX4_isAside_29 : decode cX4_isAside 29 = .ok (.ireturn, 1) := by decide +kernel
theorem dX4_throwsAt_0 : decode cX4_throwsAt 0 = .ok (.aload_n 0, 1) := by decide +kernel
theorem dX4_throwsAt_1 : decode cX4_throwsAt 1 = .ok (.getfield 31, 3) := by decide +kernel
theorem dX4_throwsAt_4 : decode cX4_throwsAt 4 = .ok (.sipush 1001, 3) := by decide +kernel
theorem dX4_throwsAt_7 : decode cX4_throwsAt 7 = .ok (.if_icmp .eq 23, 3) := by decide +kernel
theorem dX4_throwsAt_10 : decode cX4_throwsAt 10 = .ok (.iload_n 2, 1) := by decide +kernel
theorem dX4_throwsAt_11 : decode cX4_throwsAt 11 = .ok (.aload_n 0, 1) := by decide +kernel
theorem dX4_throwsAt_12 : decode cX4_throwsAt 12 = .ok (.getfield 31, 3) := by decide +kernel
theorem dX4_throwsAt_15 : decode cX4_throwsAt 15 = .ok (.if_icmp .ne 15, 3) := by decide +kernel
theorem dX4_throwsAt_18 : decode cX4_throwsAt 18 = .ok (.aload_n 0, 1) := by decide +kernel
theorem dX4_throwsAt_19 : decode cX4_throwsAt 19 = .ok (.iload_n 1, 1) := by decide +kernel
theorem dX4_throwsAt_20 : decode cX4_throwsAt 20 = .ok (.invokevirtual 73, 3) := by decide +kernel
theorem dX4_throwsAt_23 : decode cX4_throwsAt 23 = .ok (.ifCond .ne 7, 3) := by decide +kernel
theorem dX4_throwsAt_26 : decode cX4_throwsAt 26 = .ok (.iconst 1, 1) := by decide +kernel
theorem dX4_throwsAt_27 : decode cX4_throwsAt 27 = .ok (.goto 4, 3) := by decide +kernel
theorem dX4_throwsAt_30 : decode cX4_throwsAt 30 = .ok (.iconst 0, 1) := by decide +kernel
theorem dX4_throwsAt_31 : decode cX4_throwsAt 31 = .ok (.ireturn, 1) := by decide +kernel
theorem dX4_givesFor_0 : decode cX4_givesFor 0 = .ok (.aload_n 0, 1) := by decide +kernel
theorem dX4_givesFor_1 : decode cX4_givesFor 1 = .ok (.getfield 18, 3) := by decide +kernel
theorem dX4_givesFor_4 : decode cX4_givesFor 4 = .ok (.iconst 2, 1) := by decide +kernel
theorem dX4_givesFor_5 : decode cX4_givesFor 5 = .ok (.if_icmp .ne 19, 3) := by decide +kernel
theorem dX4_givesFor_8 : decode cX4_givesFor 8 = .ok (.aload_n 0, 1) := by decide +kernel
theorem dX4_givesFor_9 : decode cX4_givesFor 9 = .ok (.getfield 22, 3) := by decide +kernel
theorem dX4_givesFor_12 : decode cX4_givesFor 12 = .ok (.ifCond .le 16, 3) := by decide +kernel
theorem dX4_givesFor_15 : decode cX4_givesFor 15 = .ok (.iload_n 1, 1) := by decide +kernel
theorem dX4_givesFor_16 : decode cX4_givesFor 16 = .ok (.aload_n 0, 1) := by decide +kernel
theorem dX4_givesFor_17 : decode cX4_givesFor 17 = .ok (.getfield 22, 3) := by decide +kernel
theorem dX4_givesFor_20 : decode cX4_givesFor 20 = .ok (.irem, 1) := by decide +kernel
theorem dX4_givesFor_21 : decode cX4_givesFor 21 = .ok (.ifCond .ne 7, 3) := by decide +kernel
theorem dX4_givesFor_24 : decode cX4_givesFor 24 = .ok (.iconst 1, 1) := by decide +kernel
theorem dX4_givesFor_25 : decode cX4_givesFor 25 = .ok (.goto 4, 3) := by decide +kernel
theorem dX4_givesFor_28 : decode cX4_givesFor 28 = .ok (.iconst 0, 1) := by decide +kernel
theorem dX4_givesFor_29 : decode cX4_givesFor 29 = .ok (.ireturn, 1) := by decide +kernel
theorem dX4_narrowAfterThrow_0 : decode cX4_narrowAfterThrow 0 = .ok (.aload_n 0, 1) := by decide +kernel
theorem dX4_narrowAfterThrow_1 : decode cX4_narrowAfterThrow 1 = .ok (.getfield 34, 3) := by decide +kernel
theorem dX4_narrowAfterThrow_4 : decode cX4_narrowAfterThrow 4 = .ok (.iconst 1, 1) := by decide +kernel
theorem dX4_narrowAfterThrow_5 : decode cX4_narrowAfterThrow 5 = .ok (.if_icmp .le 16, 3) := by decide +kernel
theorem dX4_narrowAfterThrow_8 : decode cX4_narrowAfterThrow 8 = .ok (.aload_n 0, 1) := by decide +kernel
theorem dX4_narrowAfterThrow_9 : decode cX4_narrowAfterThrow 9 = .ok (.aload_n 0, 1) := by decide +kernel
theorem dX4_narrowAfterThrow_10 : decode cX4_narrowAfterThrow 10 = .ok (.getfield 34, 3) := by decide +kernel
theorem dX4_narrowAfterThrow_13 : decode cX4_narrowAfterThrow 13 = .ok (.iconst 2, 1) := by decide +kernel
theorem dX4_narrowAfterThrow_14 : decode cX4_narrowAfterThrow 14 = .ok (.idiv, 1) := by decide +kernel
theorem dX4_narrowAfterThrow_15 : decode cX4_narrowAfterThrow 15 = .ok (.putfield 34, 3) := by decide +kernel
theorem dX4_narrowAfterThrow_18 : decode cX4_narrowAfterThrow 18 = .ok (.goto 45, 3) := by decide +kernel
theorem dX4_narrowAfterThrow_21 : decode cX4_narrowAfterThrow 21 = .ok (.iload_n 1, 1) := by decide +kernel
theorem dX4_narrowAfterThrow_22 : decode cX4_narrowAfterThrow 22 = .ok (.ifCond .eq 41, 3) := by decide +kernel
theorem dX4_narrowAfterThrow_25 : decode cX4_narrowAfterThrow 25 = .ok (.aload_n 0, 1) := by decide +kernel
theorem dX4_narrowAfterThrow_26 : decode cX4_narrowAfterThrow 26 = .ok (.getfield 43, 3) := by decide +kernel
theorem dX4_narrowAfterThrow_29 : decode cX4_narrowAfterThrow 29 = .ok (.bipush 8, 2) := by decide +kernel
theorem dX4_narrowAfterThrow_31 : decode cX4_narrowAfterThrow 31 = .ok (.if_icmp .ge 32, 3) := by decide +kernel
theorem dX4_narrowAfterThrow_34 : decode cX4_narrowAfterThrow 34 = .ok (.aload_n 0, 1) := by decide +kernel
theorem dX4_narrowAfterThrow_35 : decode cX4_narrowAfterThrow 35 = .ok (.getfield 15, 3) := by decide +kernel
theorem dX4_narrowAfterThrow_38 : decode cX4_narrowAfterThrow 38 = .ok (.aload_n 0, 1) := by decide +kernel
theorem dX4_narrowAfterThrow_39 : decode cX4_narrowAfterThrow 39 = .ok (.getfield 43, 3) := by decide +kernel
theorem dX4_narrowAfterThrow_42 : decode cX4_narrowAfterThrow 42 = .ok (.aload_n 0, 1) := by decide +kernel
theorem dX4_narrowAfterThrow_43 : decode cX4_narrowAfterThrow 43 = .ok (.getfield 46, 3) := by decide +kernel
theorem dX4_narrowAfterThrow_46 : decode cX4_narrowAfterThrow 46 = .ok (.iastore, 1) := by decide +kernel
theorem dX4_narrowAfterThrow_47 : decode cX4_narrowAfterThrow 47 = .ok (.aload_n 0, 1) := by decide +kernel
theorem dX4_narrowAfterThrow_48 : decode cX4_narrowAfterThrow 48 = .ok (.dup, 1) := by decide +kernel
theorem dX4_narrowAfterThrow_49 : decode cX4_narrowAfterThrow 49 = .ok (.getfield 43, 3) := by decide +kernel
theorem dX4_narrowAfterThrow_52 : decode cX4_narrowAfterThrow 52 = .ok (.iconst 1, 1) := by decide +kernel
theorem dX4_narrowAfterThrow_53 : decode cX4_narrowAfterThrow 53 = .ok (.iadd, 1) := by decide +kernel
theorem dX4_narrowAfterThrow_54 : decode cX4_narrowAfterThrow 54 = .ok (.putfield 43, 3) := by decide +kernel
theorem dX4_narrowAfterThrow_57 : decode cX4_narrowAfterThrow 57 = .ok (.aload_n 0, 1) := by decide +kernel
theorem dX4_narrowAfterThrow_58 : decode cX4_narrowAfterThrow 58 = .ok (.bipush 8, 2) := by decide +kernel
theorem dX4_narrowAfterThrow_60 : decode cX4_narrowAfterThrow 60 = .ok (.putfield 34, 3) := by decide +kernel
theorem dX4_narrowAfterThrow_63 : decode cX4_narrowAfterThrow 63 = .ok (.return_, 1) := by decide +kernel
theorem dX4_putOut_0 : decode cX4_putOut 0 = .ok (.aload_n 0, 1) := by decide +kernel
theorem dX4_putOut_1 : decode cX4_putOut 1 = .ok (.getfield 52, 3) := by decide +kernel
theorem dX4_putOut_4 : decode cX4_putOut 4 = .ok (.sipush 200, 3) := by decide +kernel
theorem dX4_putOut_7 : decode cX4_putOut 7 = .ok (.if_icmp .ge 23, 3) := by decide +kernel
theorem dX4_putOut_10 : decode cX4_putOut 10 = .ok (.aload_n 0, 1) := by decide +kernel
theorem dX4_putOut_11 : decode cX4_putOut 11 = .ok (.getfield 9, 3) := by decide +kernel
theorem dX4_putOut_14 : decode cX4_putOut 14 = .ok (.aload_n 0, 1) := by decide +kernel
theorem dX4_putOut_15 : decode cX4_putOut 15 = .ok (.getfield 52, 3) := by decide +kernel
theorem dX4_putOut_18 : decode cX4_putOut 18 = .ok (.iload_n 1, 1) := by decide +kernel
theorem dX4_putOut_19 : decode cX4_putOut 19 = .ok (.iastore, 1) := by decide +kernel
theorem dX4_putOut_20 : decode cX4_putOut 20 = .ok (.aload_n 0, 1) := by decide +kernel
theorem dX4_putOut_21 : decode cX4_putOut 21 = .ok (.dup, 1) := by decide +kernel
theorem dX4_putOut_22 : decode cX4_putOut 22 = .ok (.getfield 52, 3) := by decide +kernel
theorem dX4_putOut_25 : decode cX4_putOut 25 = .ok (.iconst 1, 1) := by decide +kernel
theorem dX4_putOut_26 : decode cX4_putOut 26 = .ok (.iadd, 1) := by decide +kernel
theorem dX4_putOut_27 : decode cX4_putOut 27 = .ok (.putfield 52, 3) := by decide +kernel
theorem dX4_putOut_30 : decode cX4_putOut 30 = .ok (.return_, 1) := by decide +kernel
theorem dX5_init_0 : decode cX5_init 0 = .ok (.aload_n 0, 1) := by decide +kernel
theorem dX5_init_1 : decode cX5_init 1 = .ok (.invokespecial 1, 3) := by decide +kernel
theorem dX5_init_4 : decode cX5_init 4 = .ok (.aload_n 0, 1) := by decide +kernel
theorem dX5_init_5 : decode cX5_init 5 = .ok (.new 7, 3) := by decide +kernel
theorem dX5_init_8 : decode cX5_init 8 = .ok (.dup, 1) := by decide +kernel
theorem dX5_init_9 : decode cX5_init 9 = .ok (.invokespecial 9, 3) := by decide +kernel
theorem dX5_init_12 : decode cX5_init 12 = .ok (.putfield 10, 3) := by decide +kernel
theorem dX5_init_15 : decode cX5_init 15 = .ok (.aload_n 0, 1) := by decide +kernel
theorem dX5_init_16 : decode cX5_init 16 = .ok (.new 16, 3) := by decide +kernel
theorem dX5_init_19 : decode cX5_init 19 = .ok (.dup, 1) := by decide +kernel
theorem dX5_init_20 : decode cX5_init 20 = .ok (.invokespecial 18, 3) := by decide +kernel
theorem dX5_init_23 : decode cX5_init 23 = .ok (.putfield 19, 3) := by decide +kernel
theorem dX5_init_26 : decode cX5_init 26 = .ok (.aload_n 0, 1) := by decide +kernel
theorem dX5_init_27 : decode cX5_init 27 = .ok (.new 23, 3) := by decide +kernel
theorem dX5_init_30 : decode cX5_init 30 = .ok (.dup, 1) := by decide +kernel
theorem dX5_init_31 : decode cX5_init 31 = .ok (.invokespecial 25, 3) := by decide +kernel
theorem dX5_init_34 : decode cX5_init 34 = .ok (.putfield 26, 3) := by decide +kernel
theorem dX5_init_37 : decode cX5_init 37 = .ok (.aload_n 0, 1) := by decide +kernel
theorem dX5_init_38 : decode cX5_init 38 = .ok (.iconst 4, 1) := by decide +kernel
theorem dX5_init_39 : decode cX5_init 39 = .ok (.newarray .boolean, 2) := by decide +kernel
theorem dX5_init_41 : decode cX5_init 41 = .ok (.putfield 30, 3) := by decide +kernel
theorem dX5_init_44 : decode cX5_init 44 = .ok (.aload_n 0, 1) := by decide +kernel
theorem dX5_init_45 : decode cX5_init 45 = .ok (.invokevirtual 34, 3) := by decide +kernel
theorem dX5_init_48 : decode cX5_init 48 = .ok (.return_, 1) := by decide +kernel
theorem dX5_task_0 : decode cX5_task 0 = .ok (.iload_n 3, 1) := by decide +kernel
theorem dX5_task_1 : decode cX5_task 1 = .ok (.invokestatic 37, 3) := by decide +kernel
theorem dX5_task_4 : decode cX5_task 4 = .ok (.ifCond .eq 12, 3) := by decide +kernel
theorem dX5_task_7 : decode cX5_task 7 = .ok (.aload_n 0, 1) := by decide +kernel
theorem dX5_task_8 : decode cX5_task 8 = .ok (.getfield 30, 3) := by decide +kernel
theorem dX5_task_11 : decode cX5_task 11 = .ok (.iload_n 3, 1) := by decide +kernel
theorem dX5_task_12 : decode cX5_task 12 = .ok (.baload, 1) := by decide +kernel
theorem dX5_task_13 : decode cX5_task 13 = .ok (.ifCond .ne 5, 3) := by decide +kernel
theorem dX5_task_16 : decode cX5_task 16 = .ok (.iconst (-1), 1) := by decide +kernel
theorem dX5_task_17 : decode cX5_task 17 = .ok (.ireturn, 1) := by decide +kernel
theorem dX5_task_18 : decode cX5_task 18 = .ok (.iload_n 1, 1) := by decide +kernel
theorem dX5_task_19 : decode cX5_task 19 = .ok (.iload_n 2, 1) := by decide +kernel
theorem dX5_task_20 : decode cX5_task 20 = .ok (.invokestatic 41, 3) := by decide +kernel
theorem dX5_task_23 : decode cX5_task 23 = .ok (.ifCond .ne 6, 3) := by decide +kernel
theorem dX5_task_26 : decode cX5_task 26 = .ok (.bipush (-2), 2) := by decide +kernel
theorem dX5_task_28 : decode cX5_task 28 = .ok (.ireturn, 1) := by decide +kernel
theorem dX5_task_29 : decode cX5_task 29 = .ok (.aload_n 0, 1) := by decide +kernel
theorem dX5_task_30 : decode cX5_task 30 = .ok (.getfield 45, 3) := by decide +kernel
theorem dX5_task_33 : decode cX5_task 33 = .ok (.ifCond .eq 6, 3) := by decide +kernel
theorem dX5_task_36 : decode cX5_task 36 = .ok (.bipush (-3), 2) := by decide +kernel
theorem dX5_task_38 : decode cX5_task 38 = .ok (.ireturn, 1) := by decide +kernel
theorem dX5_task_39 : decode cX5_task 39 = .ok (.aload_n 0, 1) := by decide +kernel
theorem dX5_task_40 : decode cX5_task 40 = .ok (.getfield 10, 3) := by decide +kernel
theorem dX5_task_43 : decode cX5_task 43 = .ok (.getfield 49, 3) := by decide +kernel
theorem dX5_task_46 : decode cX5_task 46 = .ok (.bipush 16, 2) := by decide +kernel
theorem dX5_task_48 : decode cX5_task 48 = .ok (.if_icmp .lt 6, 3) := by decide +kernel
theorem dX5_task_51 : decode cX5_task 51 = .ok (.bipush (-4), 2) := by decide +kernel
theorem dX5_task_53 : decode cX5_task 53 = .ok (.ireturn, 1) := by decide +kernel
theorem dX5_task_54 : decode cX5_task 54 = .ok (.aload_n 0, 1) := by decide +kernel
theorem dX5_task_55 : decode cX5_task 55 = .ok (.getfield 10, 3) := by decide +kernel
theorem dX5_task_58 : decode cX5_task 58 = .ok (.iload_n 1, 1) := by decide +kernel
theorem dX5_task_59 : decode cX5_task 59 = .ok (.iload_n 2, 1) := by decide +kernel
theorem dX5_task_60 : decode cX5_task 60 = .ok (.iload_n 3, 1) := by decide +kernel
theorem dX5_task_61 : decode cX5_task 61 = .ok (.invokevirtual 53, 3) := by decide +kernel
theorem dX5_task_64 : decode cX5_task 64 = .ok (.ireturn, 1) := by decide +kernel
theorem dX5_channel_0 : decode cX5_channel 0 = .ok (.aload_n 0, 1) := by decide +kernel
theorem dX5_channel_1 : decode cX5_channel 1 = .ok (.getfield 10, 3) := by decide +kernel
theorem dX5_channel_4 : decode cX5_channel 4 = .ok (.iload_n 1, 1) := by decide +kernel
theorem dX5_channel_5 : decode cX5_channel 5 = .ok (.invokevirtual 57, 3) := by decide +kernel
theorem dX5_channel_8 : decode cX5_channel 8 = .ok (.ifCond .eq 14, 3) := by decide +kernel
theorem dX5_channel_11 : decode cX5_channel 11 = .ok (.aload_n 0, 1) := by decide +kernel
theorem dX5_channel_12 : decode cX5_channel 12 = .ok (.getfield 10, 3) := by decide +kernel
theorem dX5_channel_15 : decode cX5_channel 15 = .ok (.iload_n 2, 1) := by decide +kernel
theorem dX5_channel_16 : decode cX5_channel 16 = .ok (.invokevirtual 57, 3) := by decide +kernel
theorem dX5_channel_19 : decode cX5_channel 19 = .ok (.ifCond .ne 5, 3) := by decide +kernel
theorem dX5_channel_22 : decode cX5_channel 22 = .ok (.iconst (-1), 1) := by decide +kernel
theorem dX5_channel_23 : decode cX5_channel 23 = .ok (.ireturn, 1) := by decide +kernel
theorem dX5_channel_24 : decode cX5_channel 24 = .ok (.iload_n 1, 1) := by decide +kernel
theorem dX5_channel_25 : decode cX5_channel 25 = .ok (.iload_n 2, 1) := by decide +kernel
theorem dX5_channel_26 : decode cX5_channel 26 = .ok (.if_icmp .ge 34, 3) := by decide +kernel
theorem dX5_channel_29 : decode cX5_channel 29 = .ok (.aload_n 0, 1) := by decide +kernel
theorem dX5_channel_30 : decode cX5_channel 30 = .ok (.getfield 10, 3) := by decide +kernel
theorem dX5_channel_33 : decode cX5_channel 33 = .ok (.getfield 60, 3) := by decide +kernel
theorem dX5_channel_36 : decode cX5_channel 36 = .ok (.iload_n 1, 1) := by decide +kernel
theorem dX5_channel_37 : decode cX5_channel 37 = .ok (.aaload, 1) := by decide +kernel
theorem dX5_channel_38 : decode cX5_channel 38 = .ok (.getfield 64, 3) := by decide +kernel
theorem dX5_channel_41 : decode cX5_channel 41 = .ok (.iconst 5, 1) := by decide +kernel
theorem dX5_channel_42 : decode cX5_channel 42 = .ok (.if_icmp .eq 18, 3) := by decide +kernel
theorem dX5_channel_45 : decode cX5_channel 45 = .ok (.aload_n 0, 1) := by decide +kernel
theorem dX5_channel_46 : decode cX5_channel 46 = .ok (.getfield 10, 3) := by decide +kernel
theorem dX5_channel_49 : decode cX5_channel 49 = .ok (.getfield 60, 3) := by decide +kernel
theorem dX5_channel_52 : decode cX5_channel 52 = .ok (.iload_n 2, 1) := by decide +kernel
theorem dX5_channel_53 : decode cX5_channel 53 = .ok (.aaload, 1) := by decide +kernel
theorem dX5_channel_54 : decode cX5_channel 54 = .ok (.getfield 64, 3) := by decide +kernel
theorem dX5_channel_57 : decode cX5_channel 57 = .ok (.ifCond .ne 6, 3) := by decide +kernel
theorem dX5_channel_60 : decode cX5_channel 60 = .ok (.bipush (-2), 2) := by decide +kernel
theorem dX5_channel_62 : decode cX5_channel 62 = .ok (.ireturn, 1) := by decide +kernel
theorem dX5_channel_63 : decode cX5_channel 63 = .ok (.aload_n 0, 1) := by decide +kernel
theorem dX5_channel_64 : decode cX5_channel 64 = .ok (.getfield 45, 3) := by decide +kernel
theorem dX5_channel_67 : decode cX5_channel 67 = .ok (.ifCond .eq 6, 3) := by decide +kernel
theorem dX5_channel_70 : decode cX5_channel 70 = .ok (.bipush (-3), 2) := by decide +kernel
theorem dX5_channel_72 : decode cX5_channel 72 = .ok (.ireturn, 1) := by decide +kernel
theorem dX5_channel_73 : decode cX5_channel 73 = .ok (.aload_n 0, 1) := by decide +kernel
theorem dX5_channel_74 : decode cX5_channel 74 = .ok (.getfield 10, 3) := by decide +kernel
theorem dX5_channel_77 : decode cX5_channel 77 = .ok (.getfield 69, 3) := by decide +kernel
theorem dX5_channel_80 : decode cX5_channel 80 = .ok (.bipush 40, 2) := by decide +kernel
theorem dX5_channel_82 : decode cX5_channel 82 = .ok (.if_icmp .lt 6, 3) := by decide +kernel
theorem dX5_channel_85 : decode cX5_channel 85 = .ok (.bipush (-4), 2) := by decide +kernel
theorem dX5_channel_87 : decode cX5_channel 87 = .ok (.ireturn, 1) := by decide +kernel
theorem dX5_channel_88 : decode cX5_channel 88 = .ok (.aload_n 0, 1) := by decide +kernel
theorem dX5_channel_89 : decode cX5_channel 89 = .ok (.getfield 10, 3) := by decide +kernel
theorem dX5_channel_92 : decode cX5_channel 92 = .ok (.iload_n 1, 1) := by decide +kernel
theorem dX5_channel_93 : decode cX5_channel 93 = .ok (.iload_n 2, 1) := by decide +kernel
theorem dX5_channel_94 : decode cX5_channel 94 = .ok (.iload_n 3, 1) := by decide +kernel
theorem dX5_channel_95 : decode cX5_channel 95 = .ok (.invokevirtual 72, 3) := by decide +kernel
theorem dX5_channel_98 : decode cX5_channel 98 = .ok (.ireturn, 1) := by decide +kernel
theorem dX5_poison_0 : decode cX5_poison 0 = .ok (.aload_n 0, 1) := by decide +kernel
theorem dX5_poison_1 : decode cX5_poison 1 = .ok (.getfield 10, 3) := by decide +kernel
theorem dX5_poison_4 : decode cX5_poison 4 = .ok (.iload_n 1, 1) := by decide +kernel
theorem dX5_poison_5 : decode cX5_poison 5 = .ok (.invokevirtual 57, 3) := by decide +kernel
theorem dX5_poison_8 : decode cX5_poison 8 = .ok (.ifCond .ne 5, 3) := by decide +kernel
theorem dX5_poison_11 : decode cX5_poison 11 = .ok (.iconst (-1), 1) := by decide +kernel
theorem dX5_poison_12 : decode cX5_poison 12 = .ok (.ireturn, 1) := by decide +kernel
theorem dX5_poison_13 : decode cX5_poison 13 = .ok (.iload_n 2, 1) := by decide +kernel
theorem dX5_poison_14 : decode cX5_poison 14 = .ok (.sipush (-1000), 3) := by decide +kernel
theorem dX5_poison_17 : decode cX5_poison 17 = .ok (.if_icmp .lt 10, 3) := by decide +kernel
theorem dX5_poison_20 : decode cX5_poison 20 = .ok (.iload_n 2, 1) := by decide +kernel
theorem dX5_poison_21 : decode cX5_poison 21 = .ok (.sipush 1000, 3) := by decide +kernel
theorem dX5_poison_24 : decode cX5_poison 24 = .ok (.if_icmp .le 6, 3) := by decide +kernel
theorem dX5_poison_27 : decode cX5_poison 27 = .ok (.bipush (-2), 2) := by decide +kernel
theorem dX5_poison_29 : decode cX5_poison 29 = .ok (.ireturn, 1) := by decide +kernel
theorem dX5_poison_30 : decode cX5_poison 30 = .ok (.aload_n 0, 1) := by decide +kernel
theorem dX5_poison_31 : decode cX5_poison 31 = .ok (.getfield 45, 3) := by decide +kernel
theorem dX5_poison_34 : decode cX5_poison 34 = .ok (.ifCond .eq 6, 3) := by decide +kernel
theorem dX5_poison_37 : decode cX5_poison 37 = .ok (.bipush (-3), 2) := by decide +kernel
theorem dX5_poison_39 : decode cX5_poison 39 = .ok (.ireturn, 1) := by decide +kernel
theorem dX5_poison_40 : decode cX5_poison 40 = .ok (.aload_n 0, 1) := by decide +kernel
theorem dX5_poison_41 : decode cX5_poison 41 = .ok (.getfield 10, 3) := by decide +kernel
theorem dX5_poison_44 : decode cX5_poison 44 = .ok (.getfield 60, 3) := by decide +kernel
theorem dX5_poison_47 : decode cX5_poison 47 = .ok (.iload_n 1, 1) := by decide +kernel
theorem dX5_poison_48 : decode cX5_poison 48 = .ok (.aaload, 1) := by decide +kernel
theorem dX5_poison_49 : decode cX5_poison 49 = .ok (.getfield 76, 3) := by decide +kernel
theorem dX5_poison_52 : decode cX5_poison 52 = .ok (.istore_n 3, 1) := by decide +kernel
theorem dX5_poison_53 : decode cX5_poison 53 = .ok (.aload_n 0, 1) := by decide +kernel
theorem dX5_poison_54 : decode cX5_poison 54 = .ok (.getfield 10, 3) := by decide +kernel
theorem dX5_poison_57 : decode cX5_poison 57 = .ok (.getfield 60, 3) := by decide +kernel
theorem dX5_poison_60 : decode cX5_poison 60 = .ok (.iload_n 1, 1) := by decide +kernel
theorem dX5_poison_61 : decode cX5_poison 61 = .ok (.aaload, 1) := by decide +kernel
theorem dX5_poison_62 : decode cX5_poison 62 = .ok (.iload_n 2, 1) := by decide +kernel
theorem dX5_poison_63 : decode cX5_poison 63 = .ok (.putfield 76, 3) := by decide +kernel
theorem dX5_poison_66 : decode cX5_poison 66 = .ok (.iload_n 3, 1) := by decide +kernel
theorem dX5_poison_67 : decode cX5_poison 67 = .ok (.ireturn, 1) := by decide +kernel
theorem dX5_rule_0 : decode cX5_rule 0 = .ok (.iload_n 1, 1) := by decide +kernel
theorem dX5_rule_1 : decode cX5_rule 1 = .ok (.iconst 1, 1) := by decide +kernel
theorem dX5_rule_2 : decode cX5_rule 2 = .ok (.if_icmp .lt 9, 3) := by decide +kernel
theorem dX5_rule_5 : decode cX5_rule 5 = .ok (.iload_n 1, 1) := by decide +kernel
theorem dX5_rule_6 : decode cX5_rule 6 = .ok (.bipush 9, 2) := by decide +kernel
theorem dX5_rule_8 : decode cX5_rule 8 = .ok (.if_icmp .le 6, 3) := by decide +kernel
theorem dX5_rule_11 : decode cX5_rule 11 = .ok (.bipush (-2), 2) := by decide +kernel
theorem dX5_rule_13 : decode cX5_rule 13 = .ok (.ireturn, 1) := by decide +kernel
theorem dX5_rule_14 : decode cX5_rule 14 = .ok (.aload_n 0, 1) := by decide +kernel
theorem dX5_rule_15 : decode cX5_rule 15 = .ok (.getfield 79, 3) := by decide +kernel
theorem dX5_rule_18 : decode cX5_rule 18 = .ok (.istore_n 3, 1) := by decide +kernel
theorem dX5_rule_19 : decode cX5_rule 19 = .ok (.aload_n 0, 1) := by decide +kernel
theorem dX5_rule_20 : decode cX5_rule 20 = .ok (.iload_n 1, 1) := by decide +kernel
theorem dX5_rule_21 : decode cX5_rule 21 = .ok (.putfield 79, 3) := by decide +kernel
theorem dX5_rule_24 : decode cX5_rule 24 = .ok (.aload_n 0, 1) := by decide +kernel
theorem dX5_rule_25 : decode cX5_rule 25 = .ok (.iload_n 2, 1) := by decide +kernel
theorem dX5_rule_26 : decode cX5_rule 26 = .ok (.putfield 82, 3) := by decide +kernel
theorem dX5_rule_29 : decode cX5_rule 29 = .ok (.iload_n 3, 1) := by decide +kernel
theorem dX5_rule_30 : decode cX5_rule 30 = .ok (.ireturn, 1) := by decide +kernel
theorem dX5_step_0 : decode cX5_step 0 = .ok (.aload_n 0, 1) := by decide +kernel
theorem dX5_step_1 : decode cX5_step 1 = .ok (.getfield 10, 3) := by decide +kernel
theorem dX5_step_4 : decode cX5_step 4 = .ok (.iload_n 1, 1) := by decide +kernel
theorem dX5_step_5 : decode cX5_step 5 = .ok (.invokevirtual 57, 3) := by decide +kernel
theorem dX5_step_8 : decode cX5_step 8 = .ok (.ifCond .ne 5, 3) := by decide +kernel
theorem dX5_step_11 : decode cX5_step 11 = .ok (.iconst (-1), 1) := by decide +kernel
theorem dX5_step_12 : decode cX5_step 12 = .ok (.ireturn, 1) := by decide +kernel
theorem dX5_step_13 : decode cX5_step 13 = .ok (.aload_n 0, 1) := by decide +kernel
theorem dX5_step_14 : decode cX5_step 14 = .ok (.getfield 85, 3) := by decide +kernel
theorem dX5_step_17 : decode cX5_step 17 = .ok (.ifCond .ne 22, 3) := by decide +kernel
theorem dX5_step_20 : decode cX5_step 20 = .ok (.aload_n 0, 1) := by decide +kernel
theorem dX5_step_21 : decode cX5_step 21 = .ok (.getfield 10, 3) := by decide +kernel
theorem dX5_step_24 : decode cX5_step 24 = .ok (.getfield 60, 3) := by decide +kernel
theorem dX5_step_27 : decode cX5_step 27 = .ok (.iload_n 1, 1) := by decide +kernel
theorem dX5_step_28 : decode cX5_step 28 = .ok (.aaload, 1) := by decide +kernel
theorem dX5_step_29 : decode cX5_step 29 = .ok (.aload_n 0, 1) := by decide +kernel
theorem dX5_step_30 : decode cX5_step 30 = .ok (.getfield 88, 3) := by decide +kernel
theorem dX5_step_33 : decode cX5_step 33 = .ok (.invokevirtual 91, 3) := by decide +kernel
theorem dX5_step_36 : decode cX5_step 36 = .ok (.ifCond .le 6, 3) := by decide +kernel
theorem dX5_step_39 : decode cX5_step 39 = .ok (.bipush (-3), 2) := by decide +kernel
theorem dX5_step_41 : decode cX5_step 41 = .ok (.ireturn, 1) := by decide +kernel
theorem dX5_step_42 : decode cX5_step 42 = .ok (.aload_n 0, 1) := by decide +kernel
theorem dX5_step_43 : decode cX5_step 43 = .ok (.iconst 1, 1) := by decide +kernel
theorem dX5_step_44 : decode cX5_step 44 = .ok (.putfield 45, 3) := by decide +kernel
theorem dX5_step_47 : decode cX5_step 47 = .ok (.aload_n 0, 1) := by decide +kernel
theorem dX5_step_48 : decode cX5_step 48 = .ok (.getfield 19, 3) := by decide +kernel
theorem dX5_step_51 : decode cX5_step 51 = .ok (.aload_n 0, 1) := by decide +kernel
theorem dX5_step_52 : decode cX5_step 52 = .ok (.getfield 10, 3) := by decide +kernel
theorem dX5_step_55 : decode cX5_step 55 = .ok (.iload_n 1, 1) := by decide +kernel
theorem dX5_step_56 : decode cX5_step 56 = .ok (.invokevirtual 95, 3) := by decide +kernel
theorem dX5_step_59 : decode cX5_step 59 = .ok (.aload_n 0, 1) := by decide +kernel
theorem dX5_step_60 : decode cX5_step 60 = .ok (.getfield 19, 3) := by decide +kernel
theorem dX5_step_63 : decode cX5_step 63 = .ok (.getfield 99, 3) := by decide +kernel
theorem dX5_step_66 : decode cX5_step 66 = .ok (.ifCond .eq 29, 3) := by decide +kernel
theorem dX5_step_69 : decode cX5_step 69 = .ok (.aload_n 0, 1) := by decide +kernel
theorem dX5_step_70 : decode cX5_step 70 = .ok (.getfield 10, 3) := by decide +kernel
theorem dX5_step_73 : decode cX5_step 73 = .ok (.getfield 60, 3) := by decide +kernel
theorem dX5_step_76 : decode cX5_step 76 = .ok (.iload_n 1, 1) := by decide +kernel
theorem dX5_step_77 : decode cX5_step 77 = .ok (.aaload, 1) := by decide +kernel
theorem dX5_step_78 : decode cX5_step 78 = .ok (.aload_n 0, 1) := by decide +kernel
theorem dX5_step_79 : decode cX5_step 79 = .ok (.getfield 82, 3) := by decide +kernel
theorem dX5_step_82 : decode cX5_step 82 = .ok (.invokevirtual 102, 3) := by decide +kernel
theorem dX5_step_85 : decode cX5_step 85 = .ok (.aload_n 0, 1) := by decide +kernel
theorem dX5_step_86 : decode cX5_step 86 = .ok (.iload_n 1, 1) := by decide +kernel
theorem dX5_step_87 : decode cX5_step 87 = .ok (.iconst 0, 1) := by decide +kernel
theorem dX5_step_88 : decode cX5_step 88 = .ok (.invokevirtual 106, 3) := by decide +kernel
theorem dX5_step_91 : decode cX5_step 91 = .ok (.pop, 1) := by decide +kernel
theorem dX5_step_92 : decode cX5_step 92 = .ok (.bipush (-5), 2) := by decide +kernel
theorem dX5_step_94 : decode cX5_step 94 = .ok (.ireturn, 1) := by decide +kernel
theorem dX5_step_95 : decode cX5_step 95 = .ok (.aload_n 0, 1) := by decide +kernel
theorem dX5_step_96 : decode cX5_step 96 = .ok (.dup, 1) := by decide +kernel
theorem dX5_step_97 : decode cX5_step 97 = .ok (.getfield 110, 3) := by decide +kernel
theorem dX5_step_100 : decode cX5_step 100 = .ok (.iconst 1, 1) := by decide +kernel
theorem dX5_step_101 : decode cX5_step 101 = .ok (.iadd, 1) := by decide +kernel
theorem dX5_step_102 : decode cX5_step 102 = .ok (.putfield 110, 3) := by decide +kernel
theorem dX5_step_105 : decode cX5_step 105 = .ok (.aload_n 0, 1) := by decide +kernel
theorem dX5_step_106 : decode cX5_step 106 = .ok (.iload_n 1, 1) := by decide +kernel
theorem dX5_step_107 : decode cX5_step 107 = .ok (.invokevirtual 113, 3) := by decide +kernel
theorem dX5_step_110 : decode cX5_step 110 = .ok (.aload_n 0, 1) := by decide +kernel
theorem dX5_step_111 : decode cX5_step 111 = .ok (.getfield 19, 3) := by decide +kernel
theorem dX5_step_114 : decode cX5_step 114 = .ok (.getfield 117, 3) := by decide +kernel
theorem dX5_step_117 : decode cX5_step 117 = .ok (.ireturn, 1) := by decide +kernel
theorem dX5_fail_0 : decode cX5_fail 0 = .ok (.aload_n 0, 1) := by decide +kernel
theorem dX5_fail_1 : decode cX5_fail 1 = .ok (.getfield 10, 3) := by decide +kernel
theorem dX5_fail_4 : decode cX5_fail 4 = .ok (.iload_n 1, 1) := by decide +kernel
theorem dX5_fail_5 : decode cX5_fail 5 = .ok (.invokevirtual 57, 3) := by decide +kernel
theorem dX5_fail_8 : decode cX5_fail 8 = .ok (.ifCond .ne 5, 3) := by decide +kernel
theorem dX5_fail_11 : decode cX5_fail 11 = .ok (.iconst (-1), 1) := by decide +kernel
theorem dX5_fail_12 : decode cX5_fail 12 = .ok (.ireturn, 1) := by decide +kernel
theorem dX5_fail_13 : decode cX5_fail 13 = .ok (.aload_n 0, 1) := by decide +kernel
theorem dX5_fail_14 : decode cX5_fail 14 = .ok (.getfield 85, 3) := by decide +kernel
theorem dX5_fail_17 : decode cX5_fail 17 = .ok (.ifCond .eq 6, 3) := by decide +kernel
theorem dX5_fail_20 : decode cX5_fail 20 = .ok (.bipush (-3), 2) := by decide +kernel
theorem dX5_fail_22 : decode cX5_fail 22 = .ok (.ireturn, 1) := by decide +kernel
theorem dX5_fail_23 : decode cX5_fail 23 = .ok (.aload_n 0, 1) := by decide +kernel
theorem dX5_fail_24 : decode cX5_fail 24 = .ok (.iload_n 1, 1) := by decide +kernel
theorem dX5_fail_25 : decode cX5_fail 25 = .ok (.iconst 1, 1) := by decide +kernel
