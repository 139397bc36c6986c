theorem dX0_init_0 : decode cX0_init 0 = .ok (.aload_n 0, 1) := by decide +kernel
theorem dX0_init_1 : decode cX0_init 1 = .ok (.invokespecial 3, 3) := by decide +kernel
theorem dX0_init_4 : decode cX0_init 4 = .ok (.aload_n 0, 1) := by decide +kernel
theorem dX0_init_5 : decode cX0_init 5 = .ok (.bipush 64, 2) := by decide +kernel
theorem dX0_init_7 : decode cX0_init 7 = .ok (.newarray .int, 2) := by decide +kernel
theorem dX0_init_9 : decode cX0_init 9 = .ok (.putfield 9, 3) := by decide +kernel
theorem dX0_init_12 : decode cX0_init 12 = .ok (.aload_n 0, 1) := by decide +kernel
theorem dX0_init_13 : decode cX0_init 13 = .ok (.bipush 64, 2) := by decide +kernel
theorem dX0_init_15 : decode cX0_init 15 = .ok (.newarray .int, 2) := by decide +kernel
theorem dX0_init_17 : decode cX0_init 17 = .ok (.putfield 15, 3) := by decide +kernel
theorem dX0_init_20 : decode cX0_init 20 = .ok (.aload_n 0, 1) := by decide +kernel
theorem dX0_init_21 : decode cX0_init 21 = .ok (.bipush 64, 2) := by decide +kernel
theorem dX0_init_23 : decode cX0_init 23 = .ok (.newarray .int, 2) := by decide +kernel
theorem dX0_init_25 : decode cX0_init 25 = .ok (.putfield 18, 3) := by decide +kernel
theorem dX0_init_28 : decode cX0_init 28 = .ok (.return_, 1) := by decide +kernel
theorem dX0_putDown_0 : decode cX0_putDown 0 = .ok (.aload_n 0, 1) := by decide +kernel
theorem dX0_putDown_1 : decode cX0_putDown 1 = .ok (.getfield 21, 3) := by decide +kernel
theorem dX0_putDown_4 : decode cX0_putDown 4 = .ok (.bipush 64, 2) := by decide +kernel
theorem dX0_putDown_6 : decode cX0_putDown 6 = .ok (.if_icmp .ge 43, 3) := by decide +kernel
theorem dX0_putDown_9 : decode cX0_putDown 9 = .ok (.aload_n 0, 1) := by decide +kernel
theorem dX0_putDown_10 : decode cX0_putDown 10 = .ok (.getfield 9, 3) := by decide +kernel
theorem dX0_putDown_13 : decode cX0_putDown 13 = .ok (.aload_n 0, 1) := by decide +kernel
theorem dX0_putDown_14 : decode cX0_putDown 14 = .ok (.getfield 21, 3) := by decide +kernel
theorem dX0_putDown_17 : decode cX0_putDown 17 = .ok (.iload_n 1, 1) := by decide +kernel
theorem dX0_putDown_18 : decode cX0_putDown 18 = .ok (.iastore, 1) := by decide +kernel
theorem dX0_putDown_19 : decode cX0_putDown 19 = .ok (.aload_n 0, 1) := by decide +kernel
theorem dX0_putDown_20 : decode cX0_putDown 20 = .ok (.getfield 15, 3) := by decide +kernel
theorem dX0_putDown_23 : decode cX0_putDown 23 = .ok (.aload_n 0, 1) := by decide +kernel
theorem dX0_putDown_24 : decode cX0_putDown 24 = .ok (.getfield 21, 3) := by decide +kernel
theorem dX0_putDown_27 : decode cX0_putDown 27 = .ok (.iload_n 2, 1) := by decide +kernel
theorem dX0_putDown_28 : decode cX0_putDown 28 = .ok (.iastore, 1) := by decide +kernel
theorem dX0_putDown_29 : decode cX0_putDown 29 = .ok (.aload_n 0, 1) := by decide +kernel
theorem dX0_putDown_30 : decode cX0_putDown 30 = .ok (.getfield 18, 3) := by decide +kernel
theorem dX0_putDown_33 : decode cX0_putDown 33 = .ok (.aload_n 0, 1) := by decide +kernel
theorem dX0_putDown_34 : decode cX0_putDown 34 = .ok (.getfield 21, 3) := by decide +kernel
theorem dX0_putDown_37 : decode cX0_putDown 37 = .ok (.iload_n 3, 1) := by decide +kernel
theorem dX0_putDown_38 : decode cX0_putDown 38 = .ok (.iastore, 1) := by decide +kernel
theorem dX0_putDown_39 : decode cX0_putDown 39 = .ok (.aload_n 0, 1) := by decide +kernel
theorem dX0_putDown_40 : decode cX0_putDown 40 = .ok (.dup, 1) := by decide +kernel
theorem dX0_putDown_41 : decode cX0_putDown 41 = .ok (.getfield 21, 3) := by decide +kernel
theorem dX0_putDown_44 : decode cX0_putDown 44 = .ok (.iconst 1, 1) := by decide +kernel
theorem dX0_putDown_45 : decode cX0_putDown 45 = .ok (.iadd, 1) := by decide +kernel
theorem dX0_putDown_46 : decode cX0_putDown 46 = .ok (.putfield 21, 3) := by decide +kernel
theorem dX0_putDown_49 : decode cX0_putDown 49 = .ok (.return_, 1) := by decide +kernel
theorem dX1_init_0 : decode cX1_init 0 = .ok (.aload_n 0, 1) := by decide +kernel
theorem dX1_init_1 : decode cX1_init 1 = .ok (.invokespecial 3, 3) := by decide +kernel
theorem dX1_init_4 : decode cX1_init 4 = .ok (.aload_n 0, 1) := by decide +kernel
theorem dX1_init_5 : decode cX1_init 5 = .ok (.bipush 64, 2) := by decide +kernel
theorem dX1_init_7 : decode cX1_init 7 = .ok (.newarray .int, 2) := by decide +kernel
theorem dX1_init_9 : decode cX1_init 9 = .ok (.putfield 9, 3) := by decide +kernel
theorem dX1_init_12 : decode cX1_init 12 = .ok (.return_, 1) := by decide +kernel
theorem dX1_set_0 : decode cX1_set 0 = .ok (.aload_n 0, 1) := by decide +kernel
theorem dX1_set_1 : decode cX1_set 1 = .ok (.iload_n 1, 1) := by decide +kernel
theorem dX1_set_2 : decode cX1_set 2 = .ok (.putfield 15, 3) := by decide +kernel
theorem dX1_set_5 : decode cX1_set 5 = .ok (.aload_n 0, 1) := by decide +kernel
theorem dX1_set_6 : decode cX1_set 6 = .ok (.iload_n 2, 1) := by decide +kernel
theorem dX1_set_7 : decode cX1_set 7 = .ok (.putfield 19, 3) := by decide +kernel
theorem dX1_set_10 : decode cX1_set 10 = .ok (.aload_n 0, 1) := by decide +kernel
theorem dX1_set_11 : decode cX1_set 11 = .ok (.iload_n 3, 1) := by decide +kernel
theorem dX1_set_12 : decode cX1_set 12 = .ok (.putfield 22, 3) := by decide +kernel
theorem dX1_set_15 : decode cX1_set 15 = .ok (.aload_n 0, 1) := by decide +kernel
theorem dX1_set_16 : decode cX1_set 16 = .ok (.iconst 0, 1) := by decide +kernel
theorem dX1_set_17 : decode cX1_set 17 = .ok (.putfield 26, 3) := by decide +kernel
theorem dX1_set_20 : decode cX1_set 20 = .ok (.aload_n 0, 1) := by decide +kernel
theorem dX1_set_21 : decode cX1_set 21 = .ok (.iconst 0, 1) := by decide +kernel
theorem dX1_set_22 : decode cX1_set 22 = .ok (.putfield 29, 3) := by decide +kernel
theorem dX1_set_25 : decode cX1_set 25 = .ok (.aload_n 0, 1) := by decide +kernel
theorem dX1_set_26 : decode cX1_set 26 = .ok (.iconst 0, 1) := by decide +kernel
theorem dX1_set_27 : decode cX1_set 27 = .ok (.putfield 32, 3) := by decide +kernel
theorem dX1_set_30 : decode cX1_set 30 = .ok (.aload_n 0, 1) := by decide +kernel
theorem dX1_set_31 : decode cX1_set 31 = .ok (.iconst 0, 1) := by decide +kernel
theorem dX1_set_32 : decode cX1_set 32 = .ok (.putfield 35, 3) := by decide +kernel
theorem dX1_set_35 : decode cX1_set 35 = .ok (.aload_n 0, 1) := by decide +kernel
theorem dX1_set_36 : decode cX1_set 36 = .ok (.invokevirtual 38, 3) := by decide +kernel
theorem dX1_set_39 : decode cX1_set 39 = .ok (.return_, 1) := by decide +kernel
theorem dX1_keepAsMark_0 : decode cX1_keepAsMark 0 = .ok (.aload_n 0, 1) := by decide +kernel
theorem dX1_keepAsMark_1 : decode cX1_keepAsMark 1 = .ok (.aload_n 0, 1) := by decide +kernel
theorem dX1_keepAsMark_2 : decode cX1_keepAsMark 2 = .ok (.getfield 26, 3) := by decide +kernel
theorem dX1_keepAsMark_5 : decode cX1_keepAsMark 5 = .ok (.putfield 41, 3) := by decide +kernel
theorem dX1_keepAsMark_8 : decode cX1_keepAsMark 8 = .ok (.aload_n 0, 1) := by decide +kernel
theorem dX1_keepAsMark_9 : decode cX1_keepAsMark 9 = .ok (.aload_n 0, 1) := by decide +kernel
theorem dX1_keepAsMark_10 : decode cX1_keepAsMark 10 = .ok (.getfield 29, 3) := by decide +kernel
theorem dX1_keepAsMark_13 : decode cX1_keepAsMark 13 = .ok (.putfield 44, 3) := by decide +kernel
theorem dX1_keepAsMark_16 : decode cX1_keepAsMark 16 = .ok (.aload_n 0, 1) := by decide +kernel
theorem dX1_keepAsMark_17 : decode cX1_keepAsMark 17 = .ok (.aload_n 0, 1) := by decide +kernel
theorem dX1_keepAsMark_18 : decode cX1_keepAsMark 18 = .ok (.getfield 32, 3) := by decide +kernel
theorem dX1_keepAsMark_21 : decode cX1_keepAsMark 21 = .ok (.putfield 47, 3) := by decide +kernel
theorem dX1_keepAsMark_24 : decode cX1_keepAsMark 24 = .ok (.aload_n 0, 1) := by decide +kernel
theorem dX1_keepAsMark_25 : decode cX1_keepAsMark 25 = .ok (.iconst 0, 1) := by decide +kernel
theorem dX1_keepAsMark_26 : decode cX1_keepAsMark 26 = .ok (.putfield 50, 3) := by decide +kernel
theorem dX1_keepAsMark_29 : decode cX1_keepAsMark 29 = .ok (.return_, 1) := by decide +kernel
theorem dX1_isOverAt_0 : decode cX1_isOverAt 0 = .ok (.iload_n 2, 1) := by decide +kernel
theorem dX1_isOverAt_1 : decode cX1_isOverAt 1 = .ok (.aload_n 0, 1) := by decide +kernel
theorem dX1_isOverAt_2 : decode cX1_isOverAt 2 = .ok (.getfield 15, 3) := by decide +kernel
theorem dX1_isOverAt_5 : decode cX1_isOverAt 5 = .ok (.invokestatic 53, 3) := by decide +kernel
theorem dX1_isOverAt_8 : decode cX1_isOverAt 8 = .ok (.ifCond .eq 15, 3) := by decide +kernel
theorem dX1_isOverAt_11 : decode cX1_isOverAt 11 = .ok (.iload_n 1, 1) := by decide +kernel
theorem dX1_isOverAt_12 : decode cX1_isOverAt 12 = .ok (.aload_n 0, 1) := by decide +kernel
theorem dX1_isOverAt_13 : decode cX1_isOverAt 13 = .ok (.getfield 29, 3) := by decide +kernel
theorem dX1_isOverAt_16 : decode cX1_isOverAt 16 = .ok (.if_icmp .lt 7, 3) := by decide +kernel
theorem dX1_isOverAt_19 : decode cX1_isOverAt 19 = .ok (.iconst 1, 1) := by decide +kernel
theorem dX1_isOverAt_20 : decode cX1_isOverAt 20 = .ok (.goto 4, 3) := by decide +kernel
theorem dX1_isOverAt_23 : decode cX1_isOverAt 23 = .ok (.iconst 0, 1) := by decide +kernel
theorem dX1_isOverAt_24 : decode cX1_isOverAt 24 = .ok (.ireturn, 1) := by decide +kernel
theorem dX1_takeOne_0 : decode cX1_takeOne 0 = .ok (.aload_n 0, 1) := by decide +kernel
theorem dX1_takeOne_1 : decode cX1_takeOne 1 = .ok (.dup, 1) := by decide +kernel
theorem dX1_takeOne_2 : decode cX1_takeOne 2 = .ok (.getfield 32, 3) := by decide +kernel
theorem dX1_takeOne_5 : decode cX1_takeOne 5 = .ok (.iconst 1, 1) := by decide +kernel
theorem dX1_takeOne_6 : decode cX1_takeOne 6 = .ok (.iadd, 1) := by decide +kernel
theorem dX1_takeOne_7 : decode cX1_takeOne 7 = .ok (.putfield 32, 3) := by decide +kernel
theorem dX1_takeOne_10 : decode cX1_takeOne 10 = .ok (.aload_n 0, 1) := by decide +kernel
theorem dX1_takeOne_11 : decode cX1_takeOne 11 = .ok (.aload_n 0, 1) := by decide +kernel
theorem dX1_takeOne_12 : decode cX1_takeOne 12 = .ok (.getfield 35, 3) := by decide +kernel
theorem dX1_takeOne_15 : decode cX1_takeOne 15 = .ok (.aload_n 0, 1) := by decide +kernel
theorem dX1_takeOne_16 : decode cX1_takeOne 16 = .ok (.getfield 32, 3) := by decide +kernel
theorem dX1_takeOne_19 : decode cX1_takeOne 19 = .ok (.invokestatic 57, 3) := by decide +kernel
theorem dX1_takeOne_22 : decode cX1_takeOne 22 = .ok (.putfield 35, 3) := by decide +kernel
theorem dX1_takeOne_25 : decode cX1_takeOne 25 = .ok (.return_, 1) := by decide +kernel
theorem dX1_put_0 : decode cX1_put 0 = .ok (.aload_n 0, 1) := by decide +kernel
theorem dX1_put_1 : decode cX1_put 1 = .ok (.getfield 29, 3) := by decide +kernel
theorem dX1_put_4 : decode cX1_put 4 = .ok (.bipush 64, 2) := by decide +kernel
theorem dX1_put_6 : decode cX1_put 6 = .ok (.if_icmp .lt 4, 3) := by decide +kernel
theorem dX1_put_9 : decode cX1_put 9 = .ok (.return_, 1) := by decide +kernel
theorem dX1_put_10 : decode cX1_put 10 = .ok (.aload_n 0, 1) := by decide +kernel
theorem dX1_put_11 : decode cX1_put 11 = .ok (.getfield 29, 3) := by decide +kernel
theorem dX1_put_14 : decode cX1_put 14 = .ok (.aload_n 0, 1) := by decide +kernel
theorem dX1_put_15 : decode cX1_put 15 = .ok (.getfield 26, 3) := by decide +kernel
theorem dX1_put_18 : decode cX1_put 18 = .ok (.if_icmp .ne 23, 3) := by decide +kernel
theorem dX1_put_21 : decode cX1_put 21 = .ok (.aload_n 0, 1) := by decide +kernel
theorem dX1_put_22 : decode cX1_put 22 = .ok (.getfield 9, 3) := by decide +kernel
theorem dX1_put_25 : decode cX1_put 25 = .ok (.aload_n 0, 1) := by decide +kernel
theorem dX1_put_26 : decode cX1_put 26 = .ok (.getfield 26, 3) := by decide +kernel
theorem dX1_put_29 : decode cX1_put 29 = .ok (.iload_n 1, 1) := by decide +kernel
theorem dX1_put_30 : decode cX1_put 30 = .ok (.iastore, 1) := by decide +kernel
theorem dX1_put_31 : decode cX1_put 31 = .ok (.aload_n 0, 1) := by decide +kernel
theorem dX1_put_32 : decode cX1_put 32 = .ok (.dup, 1) := by decide +kernel
theorem dX1_put_33 : decode cX1_put 33 = .ok (.getfield 26, 3) := by decide +kernel
theorem dX1_put_36 : decode cX1_put 36 = .ok (.iconst 1, 1) := by decide +kernel
theorem dX1_put_37 : decode cX1_put 37 = .ok (.iadd, 1) := by decide +kernel
theorem dX1_put_38 : decode cX1_put 38 = .ok (.putfield 26, 3) := by decide +kernel
theorem dX1_put_41 : decode cX1_put 41 = .ok (.aload_n 0, 1) := by decide +kernel
theorem dX1_put_42 : decode cX1_put 42 = .ok (.dup, 1) := by decide +kernel
theorem dX1_put_43 : decode cX1_put 43 = .ok (.getfield 29, 3) := by decide +kernel
theorem dX1_put_46 : decode cX1_put 46 = .ok (.iconst 1, 1) := by decide +kernel
theorem dX1_put_47 : decode cX1_put 47 = .ok (.iadd, 1) := by decide +kernel
theorem dX1_put_48 : decode cX1_put 48 = .ok (.putfield 29, 3) := by decide +kernel
theorem dX1_put_51 : decode cX1_put 51 = .ok (.return_, 1) := by decide +kernel
theorem dX1_loseBehindMark_0 : decode cX1_loseBehindMark 0 = .ok (.aload_n 0, 1) := by decide +kernel
theorem dX1_loseBehindMark_1 : decode cX1_loseBehindMark 1 = .ok (.aload_n 0, 1) := by decide +kernel
theorem dX1_loseBehindMark_2 : decode cX1_loseBehindMark 2 = .ok (.getfield 26, 3) := by decide +kernel
theorem dX1_loseBehindMark_5 : decode cX1_loseBehindMark 5 = .ok (.aload_n 0, 1) := by decide +kernel
theorem dX1_loseBehindMark_6 : decode cX1_loseBehindMark 6 = .ok (.getfield 41, 3) := by decide +kernel
theorem dX1_loseBehindMark_9 : decode cX1_loseBehindMark 9 = .ok (.isub, 1) := by decide +kernel
theorem dX1_loseBehindMark_10 : decode cX1_loseBehindMark 10 = .ok (.putfield 50, 3) := by decide +kernel
theorem dX1_loseBehindMark_13 : decode cX1_loseBehindMark 13 = .ok (.return_, 1) := by decide +kernel
theorem dX1_settled_0 : decode cX1_settled 0 = .ok (.aload_n 0, 1) := by decide +kernel
theorem dX1_settled_1 : decode cX1_settled 1 = .ok (.getfield 41, 3) := by decide +kernel
theorem dX1_settled_4 : decode cX1_settled 4 = .ok (.aload_n 0, 1) := by decide +kernel
theorem dX1_settled_5 : decode cX1_settled 5 = .ok (.getfield 47, 3) := by decide +kernel
theorem dX1_settled_8 : decode cX1_settled 8 = .ok (.invokestatic 57, 3) := by decide +kernel
theorem dX1_settled_11 : decode cX1_settled 11 = .ok (.ireturn, 1) := by decide +kernel
theorem dX1_rewindGiver_0 : decode cX1_rewindGiver 0 = .ok (.aload_n 0, 1) := by decide +kernel
theorem dX1_rewindGiver_1 : decode cX1_rewindGiver 1 = .ok (.aload_n 0, 1) := by decide +kernel
theorem dX1_rewindGiver_2 : decode cX1_rewindGiver 2 = .ok (.getfield 44, 3) := by decide +kernel
theorem dX1_rewindGiver_5 : decode cX1_rewindGiver 5 = .ok (.putfield 29, 3) := by decide +kernel
theorem dX1_rewindGiver_8 : decode cX1_rewindGiver 8 = .ok (.iload_n 1, 1) := by decide +kernel
theorem dX1_rewindGiver_9 : decode cX1_rewindGiver 9 = .ok (.ifCond .eq 18, 3) := by decide +kernel
theorem dX1_rewindGiver_12 : decode cX1_rewindGiver 12 = .ok (.aload_n 0, 1) := by decide +kernel
theorem dX1_rewindGiver_13 : decode cX1_rewindGiver 13 = .ok (.aload_n 0, 1) := by decide +kernel
theorem dX1_rewindGiver_14 : decode cX1_rewindGiver 14 = .ok (.getfield 35, 3) := by decide +kernel
theorem dX1_rewindGiver_17 : decode cX1_rewindGiver 17 = .ok (.aload_n 0, 1) := by decide +kernel
theorem dX1_rewindGiver_18 : decode cX1_rewindGiver 18 = .ok (.invokevirtual 63, 3) := by decide +kernel
theorem dX1_rewindGiver_21 : decode cX1_rewindGiver 21 = .ok (.invokestatic 67, 3) := by decide +kernel
theorem dX1_rewindGiver_24 : decode cX1_rewindGiver 24 = .ok (.putfield 35, 3) := by decide +kernel
theorem dX1_rewindGiver_27 : decode cX1_rewindGiver 27 = .ok (.aload_n 0, 1) := by decide +kernel
theorem dX1_rewindGiver_28 : decode cX1_rewindGiver 28 = .ok (.getfield 22, 3) := by decide +kernel
theorem dX1_rewindGiver_31 : decode cX1_rewindGiver 31 = .ok (.ifCond .eq 14, 3) := by decide +kernel
theorem dX1_rewindGiver_34 : decode cX1_rewindGiver 34 = .ok (.iload_n 1, 1) := by decide +kernel
theorem dX1_rewindGiver_35 : decode cX1_rewindGiver 35 = .ok (.ifCond .ne 10, 3) := by decide +kernel
theorem dX1_rewindGiver_38 : decode cX1_rewindGiver 38 = .ok (.aload_n 0, 1) := by decide +kernel
theorem dX1_rewindGiver_39 : decode cX1_rewindGiver 39 = .ok (.getfield 50, 3) := by decide +kernel
theorem dX1_rewindGiver_42 : decode cX1_rewindGiver 42 = .ok (.ifCond .le 16, 3) := by decide +kernel
theorem dX1_rewindGiver_45 : decode cX1_rewindGiver 45 = .ok (.aload_n 0, 1) := by decide +kernel
theorem dX1_rewindGiver_46 : decode cX1_rewindGiver 46 = .ok (.aload_n 0, 1) := by decide +kernel
theorem dX1_rewindGiver_47 : decode cX1_rewindGiver 47 = .ok (.getfield 41, 3) := by decide +kernel
theorem dX1_rewindGiver_50 : decode cX1_rewindGiver 50 = .ok (.putfield 26, 3) := by decide +kernel
theorem dX1_rewindGiver_53 : decode cX1_rewindGiver 53 = .ok (.aload_n 0, 1) := by decide +kernel
theorem dX1_rewindGiver_54 : decode cX1_rewindGiver 54 = .ok (.iconst 0, 1) := by decide +kernel
theorem dX1_rewindGiver_55 : decode cX1_rewindGiver 55 = .ok (.putfield 50, 3) := by decide +kernel
theorem dX1_rewindGiver_58 : decode cX1_rewindGiver 58 = .ok (.return_, 1) := by decide +kernel
theorem dX1_rewindTaker_0 : decode cX1_rewindTaker 0 = .ok (.aload_n 0, 1) := by decide +kernel
theorem dX1_rewindTaker_1 : decode cX1_rewindTaker 1 = .ok (.aload_n 0, 1) := by decide +kernel
theorem dX1_rewindTaker_2 : decode cX1_rewindTaker 2 = .ok (.getfield 47, 3) := by decide +kernel
theorem dX1_rewindTaker_5 : decode cX1_rewindTaker 5 = .ok (.putfield 32, 3) := by decide +kernel
theorem dX1_rewindTaker_8 : decode cX1_rewindTaker 8 = .ok (.return_, 1) := by decide +kernel
theorem dX2_init_0 : decode cX2_init 0 = .ok (.aload_n 0, 1) := by decide +kernel
theorem dX2_init_1 : decode cX2_init 1 = .ok (.invokespecial 3, 3) := by decide +kernel
theorem dX2_init_4 : decode cX2_init 4 = .ok (.aload_n 0, 1) := by decide +kernel
theorem dX2_init_5 : decode cX2_init 5 = .ok (.bipush 16, 2) := by decide +kernel
theorem dX2_init_7 : decode cX2_init 7 = .ok (.anewarray 9, 3) := by decide +kernel
theorem dX2_init_10 : decode cX2_init 10 = .ok (.putfield 11, 3) := by decide +kernel
theorem dX2_init_13 : decode cX2_init 13 = .ok (.aload_n 0, 1) := by decide +kernel
theorem dX2_init_14 : decode cX2_init 14 = .ok (.bipush 40, 2) := by decide +kernel
theorem dX2_init_16 : decode cX2_init 16 = .ok (.anewarray 17, 3) := by decide +kernel
theorem dX2_init_19 : decode cX2_init 19 = .ok (.putfield 19, 3) := by decide +kernel
theorem dX2_init_22 : decode cX2_init 22 = .ok (.iconst 0, 1) := by decide +kernel
theorem dX2_init_23 : decode cX2_init 23 = .ok (.istore_n 1, 1) := by decide +kernel
theorem dX2_init_24 : decode cX2_init 24 = .ok (.iload_n 1, 1) := by decide +kernel
theorem dX2_init_25 : decode cX2_init 25 = .ok (.bipush 16, 2) := by decide +kernel
theorem dX2_init_27 : decode cX2_init 27 = .ok (.if_icmp .ge 22, 3) := by decide +kernel
theorem dX2_init_30 : decode cX2_init 30 = .ok (.aload_n 0, 1) := by decide +kernel
theorem dX2_init_31 : decode cX2_init 31 = .ok (.getfield 11, 3) := by decide +kernel
theorem dX2_init_34 : decode cX2_init 34 = .ok (.iload_n 1, 1) := by decide +kernel
theorem dX2_init_35 : decode cX2_init 35 = .ok (.new 9, 3) := by decide +kernel
theorem dX2_init_38 : decode cX2_init 38 = .ok (.dup, 1) := by decide +kernel
theorem dX2_init_39 : decode cX2_init 39 = .ok (.invokespecial 23, 3) := by decide +kernel
theorem dX2_init_42 : decode cX2_init 42 = .ok (.aastore, 1) := by decide +kernel
theorem dX2_init_43 : decode cX2_init 43 = .ok (.iinc 1 1, 3) := by decide +kernel
theorem dX2_init_46 : decode cX2_init 46 = .ok (.goto (-22), 3) := by decide +kernel
theorem dX2_init_49 : decode cX2_init 49 = .ok (.iconst 0, 1) := by decide +kernel
theorem dX2_init_50 : decode cX2_init 50 = .ok (.istore_n 1, 1) := by decide +kernel
theorem dX2_init_51 : decode cX2_init 51 = .ok (.iload_n 1, 1) := by decide +kernel
theorem dX2_init_52 : decode cX2_init 52 = .ok (.bipush 40, 2) := by decide +kernel
theorem dX2_init_54 : decode cX2_init 54 = .ok (.if_icmp .ge 22, 3) := by decide +kernel
theorem dX2_init_57 : decode cX2_init 57 = .ok (.aload_n 0, 1) := by decide +kernel
theorem dX2_init_58 : decode cX2_init 58 = .ok (.getfield 19, 3) := by decide +kernel
theorem dX2_init_61 : decode cX2_init 61 = .ok (.iload_n 1, 1) := by decide +kernel
theorem dX2_init_62 : decode cX2_init 62 = .ok (.new 17, 3) := by decide +kernel
theorem dX2_init_65 : decode cX2_init 65 = .ok (.dup, 1) := by decide +kernel
theorem dX2_init_66 : decode cX2_init 66 = .ok (.invokespecial 24, 3) := by decide +kernel
theorem dX2_init_69 : decode cX2_init 69 = .ok (.aastore, 1) := by decide +kernel
theorem dX2_init_70 : decode cX2_init 70 = .ok (.iinc 1 1, 3) := by decide +kernel
theorem dX2_init_73 : decode cX2_init 73 = .ok (.goto (-22), 3) := by decide +kernel
theorem dX2_init_76 : decode cX2_init 76 = .ok (.return_, 1) := by decide +kernel
theorem dX2_hasTask_0 : decode cX2_hasTask 0 = .ok (.iload_n 1, 1) := by decide +kernel
theorem dX2_hasTask_1 : decode cX2_hasTask 1 = .ok (.ifCond .lt 15, 3) := by decide +kernel
theorem dX2_hasTask_4 : decode cX2_hasTask 4 = .ok (.iload_n 1, 1) := by decide +kernel
theorem dX2_hasTask_5 : decode cX2_hasTask 5 = .ok (.aload_n 0, 1) := by decide +kernel
theorem dX2_hasTask_6 : decode cX2_hasTask 6 = .ok (.getfield 25, 3) := by decide +kernel
theorem dX2_hasTask_9 : decode cX2_hasTask 9 = .ok (.if_icmp .ge 7, 3) := by decide +kernel
theorem dX2_hasTask_12 : decode cX2_hasTask 12 = .ok (.iconst 1, 1) := by decide +kernel
theorem dX2_hasTask_13 : decode cX2_hasTask 13 = .ok (.goto 4, 3) := by decide +kernel
theorem dX2_hasTask_16 : decode cX2_hasTask 16 = .ok (.iconst 0, 1) := by decide +kernel
theorem dX2_hasTask_17 : decode cX2_hasTask 17 = .ok (.ireturn, 1) := by decide +kernel
theorem dX2_hasChannel_0 : decode cX2_hasChannel 0 = .ok (.iload_n 1, 1) := by decide +kernel
theorem dX2_hasChannel_1 : decode cX2_hasChannel 1 = .ok (.ifCond .lt 15, 3) := by decide +kernel
theorem dX2_hasChannel_4 : decode cX2_hasChannel 4 = .ok (.iload_n 1, 1) := by decide +kernel
theorem dX2_hasChannel_5 : decode cX2_hasChannel 5 = .ok (.aload_n 0, 1) := by decide +kernel
theorem dX2_hasChannel_6 : decode cX2_hasChannel 6 = .ok (.getfield 29, 3) := by decide +kernel
theorem dX2_hasChannel_9 : decode cX2_hasChannel 9 = .ok (.if_icmp .ge 7, 3) := by decide +kernel
theorem dX2_hasChannel_12 : decode cX2_hasChannel 12 = .ok (.iconst 1, 1) := by decide +kernel
theorem dX2_hasChannel_13 : decode cX2_hasChannel 13 = .ok (.goto 4, 3) := by decide +kernel
theorem dX2_hasChannel_16 : decode cX2_hasChannel 16 = .ok (.iconst 0, 1) := by decide +kernel
theorem dX2_hasChannel_17 : decode cX2_hasChannel 17 = .ok (.ireturn, 1) := by decide +kernel
theorem dX2_addTask_0 : decode cX2_addTask 0 = .ok (.aload_n 0, 1) := by decide +kernel
theorem dX2_addTask_1 : decode cX2_addTask 1 = .ok (.getfield 11, 3) := by decide +kernel
theorem dX2_addTask_4 : decode cX2_addTask 4 = .ok (.aload_n 0, 1) := by decide +kernel
theorem dX2_addTask_5 : decode cX2_addTask 5 = .ok (.getfield 25, 3) := by decide +kernel
theorem dX2_addTask_8 : decode cX2_addTask 8 = .ok (.aaload, 1) := by decide +kernel
theorem dX2_addTask_9 : decode cX2_addTask 9 = .ok (.iload_n 1, 1) := by decide +kernel
theorem dX2_addTask_10 : decode cX2_addTask 10 = .ok (.iload_n 2, 1) := by decide +kernel
theorem dX2_addTask_11 : decode cX2_addTask 11 = .ok (.iload_n 3, 1) := by decide +kernel
theorem dX2_addTask_12 : decode cX2_addTask 12 = .ok (.invokevirtual 32, 3) := by decide +kernel
theorem dX2_addTask_15 : decode cX2_addTask 15 = .ok (.aload_n 0, 1) := by decide +kernel
theorem dX2_addTask_16 : decode cX2_addTask 16 = .ok (.dup, 1) := by decide +kernel
theorem dX2_addTask_17 : decode cX2_addTask 17 = .ok (.getfield 25, 3) := by decide +kernel
theorem dX2_addTask_20 : decode cX2_addTask 20 = .ok (.iconst 1, 1) := by decide +kernel
theorem dX2_addTask_21 : decode cX2_addTask 21 = .ok (.iadd, 1) := by decide +kernel
theorem dX2_addTask_22 : decode cX2_addTask 22 = .ok (.putfield 25, 3) := by decide +kernel
theorem dX2_addTask_25 : decode cX2_addTask 25 = .ok (.aload_n 0, 1) := by decide +kernel
theorem dX2_addTask_26 : decode cX2_addTask 26 = .ok (.getfield 25, 3) := by decide +kernel
theorem dX2_addTask_29 : decode cX2_addTask 29 = .ok (.iconst 1, 1) := by decide +kernel
theorem dX2_addTask_30 : decode cX2_addTask 30 = .ok (.isub, 1) := by decide +kernel
theorem dX2_addTask_31 : decode cX2_addTask 31 = .ok (.ireturn, 1) := by decide +kernel
theorem dX2_addChannel_0 : decode cX2_addChannel 0 = .ok (.aload_n 0, 1) := by decide +kernel
theorem dX2_addChannel_1 : decode cX2_addChannel 1 = .ok (.getfield 19, 3) := by decide +kernel
theorem dX2_addChannel_4 : decode cX2_addChannel 4 = .ok (.aload_n 0, 1) := by decide +kernel
theorem dX2_addChannel_5 : decode cX2_addChannel 5 = .ok (.getfield 29, 3) := by decide +kernel
theorem dX2_addChannel_8 : decode cX2_addChannel 8 = .ok (.aaload, 1) := by decide +kernel
theorem dX2_addChannel_9 : decode cX2_addChannel 9 = .ok (.iload_n 1, 1) := by decide +kernel
theorem dX2_addChannel_10 : decode cX2_addChannel 10 = .ok (.iload_n 2, 1) := by decide +kernel
theorem dX2_addChannel_11 : decode cX2_addChannel 11 = .ok (.iload_n 3, 1) := by decide +kernel
theorem dX2_addChannel_12 : decode cX2_addChannel 12 = .ok (.invokevirtual 36, 3) := by decide +kernel
theorem dX2_addChannel_15 : decode cX2_addChannel 15 = .ok (.aload_n 0, 1) := by decide +kernel
theorem dX2_addChannel_16 : decode cX2_addChannel 16 = .ok (.getfield 11, 3) := by decide +kernel
theorem dX2_addChannel_19 : decode cX2_addChannel 19 = .ok (.iload_n 2, 1) := by decide +kernel
theorem dX2_addChannel_20 : decode cX2_addChannel 20 = .ok (.aaload, 1) := by decide +kernel
theorem dX2_addChannel_21 : decode cX2_addChannel 21 = .ok (.dup, 1) := by decide +kernel
theorem dX2_addChannel_22 : decode cX2_addChannel 22 = .ok (.getfield 39, 3) := by decide +kernel
theorem dX2_addChannel_25 : decode cX2_addChannel 25 = .ok (.iconst 1, 1) := by decide +kernel
theorem dX2_addChannel_26 : decode cX2_addChannel 26 = .ok (.iload_n 1, 1) := by decide +kernel
theorem dX2_addChannel_27 : decode cX2_addChannel 27 = .ok (.ishl, 1) := by decide +kernel
theorem dX2_addChannel_28 : decode cX2_addChannel 28 = .ok (.ior, 1) := by decide +kernel
theorem dX2_addChannel_29 : decode cX2_addChannel 29 = .ok (.putfield 39, 3) := by decide +kernel
theorem dX2_addChannel_32 : decode cX2_addChannel 32 = .ok (.aload_n 0, 1) := by decide +kernel
theorem dX2_addChannel_33 : decode cX2_addChannel 33 = .ok (.dup, 1) := by decide +kernel
theorem dX2_addChannel_34 : decode cX2_addChannel 34 = .ok (.getfield 29, 3) := by decide +kernel
theorem dX2_addChannel_37 : decode cX2_addChannel 37 = .ok (.iconst 1, 1) := by decide +kernel
theorem dX2_addChannel_38 : decode cX2_addChannel 38 = .ok (.iadd, 1) := by decide +kernel
theorem dX2_addChannel_39 : decode cX2_addChannel 39 = .ok (.putfield 29, 3) := by decide +kernel
theorem dX2_addChannel_42 : decode cX2_addChannel 42 = .ok (.aload_n 0, 1) := by decide +kernel
theorem dX2_addChannel_43 : decode cX2_addChannel 43 = .ok (.getfield 29, 3) := by decide +kernel
theorem dX2_addChannel_46 : decode cX2_addChannel 46 = .ok (.iconst 1, 1) := by decide +kernel
theorem dX2_addChannel_47 : decode cX2_addChannel 47 = .ok (.isub, 1) := by decide +kernel
theorem dX2_addChannel_48 : decode cX2_addChannel 48 = .ok (.ireturn, 1) := by decide +kernel
theorem dX2_tasksOn_0 : decode cX2_tasksOn 0 = .ok (.iconst 0, 1) := by decide +kernel
theorem dX2_tasksOn_1 : decode cX2_tasksOn 1 = .ok (.istore_n 2, 1) := by decide +kernel
theorem dX2_tasksOn_2 : decode cX2_tasksOn 2 = .ok (.iconst 0, 1) := by decide +kernel
theorem dX2_tasksOn_3 : decode cX2_tasksOn 3 = .ok (.istore_n 3, 1) := by decide +kernel
theorem dX2_tasksOn_4 : decode cX2_tasksOn 4 = .ok (.iload_n 3, 1) := by decide +kernel
theorem dX2_tasksOn_5 : decode cX2_tasksOn 5 = .ok (.aload_n 0, 1) := by decide +kernel
theorem dX2_tasksOn_6 : decode cX2_tasksOn 6 = .ok (.getfield 25, 3) := by decide +kernel
theorem dX2_tasksOn_9 : decode cX2_tasksOn 9 = .ok (.if_icmp .ge 28, 3) := by decide +kernel
theorem dX2_tasksOn_12 : decode cX2_tasksOn 12 = .ok (.aload_n 0, 1) := by decide +kernel
theorem dX2_tasksOn_13 : decode cX2_tasksOn 13 = .ok (.getfield 11, 3) := by decide +kernel
theorem dX2_tasksOn_16 : decode cX2_tasksOn 16 = .ok (.iload_n 3, 1) := by decide +kernel
theorem dX2_tasksOn_17 : decode cX2_tasksOn 17 = .ok (.aaload, 1) := by decide +kernel
theorem dX2_tasksOn_18 : decode cX2_tasksOn 18 = .ok (.getfield 42, 3) := by decide +kernel
theorem dX2_tasksOn_21 : decode cX2_tasksOn 21 = .ok (.iload_n 1, 1) := by decide +kernel
theorem dX2_tasksOn_22 : decode cX2_tasksOn 22 = .ok (.if_icmp .ne 9, 3) := by decide +kernel
theorem dX2_tasksOn_25 : decode cX2_tasksOn 25 = .ok (.iload_n 2, 1) := by decide +kernel
theorem dX2_tasksOn_26 : decode cX2_tasksOn 26 = .ok (.iconst 1, 1) := by decide +kernel
theorem dX2_tasksOn_27 : decode cX2_tasksOn 27 = .ok (.iload_n 3, 1) := by decide +kernel
theorem dX2_tasksOn_28 : decode cX2_tasksOn 28 = .ok (.ishl, 1) := by decide +kernel
theorem dX2_tasksOn_29 : decode cX2_tasksOn 29 = .ok (.ior, 1) := by decide +kernel
theorem dX2_tasksOn_30 : decode cX2_tasksOn 30 = .ok (.istore_n 2, 1) := by decide +kernel
theorem dX2_tasksOn_31 : decode cX2_tasksOn 31 = .ok (.iinc 3 1, 3) := by decide +kernel
theorem dX2_tasksOn_34 : decode cX2_tasksOn 34 = .ok (.goto (-30), 3) := by decide +kernel
theorem dX2_tasksOn_37 : decode cX2_tasksOn 37 = .ok (.iload_n 2, 1) := by decide +kernel
theorem dX2_tasksOn_38 : decode cX2_tasksOn 38 = .ok (.ireturn, 1) := by decide +kernel
theorem dX2_countWaiting_0 : decode cX2_countWaiting 0 = .ok (.iconst 0, 1) := by decide +kernel
theorem dX2_countWaiting_1 : decode cX2_countWaiting 1 = .ok (.istore_n 2, 1) := by decide +kernel
theorem dX2_countWaiting_2 : decode cX2_countWaiting 2 = .ok (.iconst 0, 1) := by decide +kernel
theorem dX2_countWaiting_3 : decode cX2_countWaiting 3 = .ok (.istore_n 3, 1) := by decide +kernel
theorem dX2_countWaiting_4 : decode cX2_countWaiting 4 = .ok (.iload_n 3, 1) := by decide +kernel
theorem dX2_countWaiting_5 : decode cX2_countWaiting 5 = .ok (.aload_n 0, 1) := by decide +kernel
theorem dX2_countWaiting_6 : decode cX2_countWaiting 6 = .ok (.getfield 25, 3) := by decide +kernel
theorem dX2_countWaiting_9 : decode cX2_countWaiting 9 = .ok (.if_icmp .ge 25, 3) := by decide +kernel
theorem dX2_countWaiting_12 : decode cX2_countWaiting 12 = .ok (.aload_n 0, 1) := by decide +kernel
theorem dX2_countWaiting_13 : decode cX2_countWaiting 13 = .ok (.getfield 11, 3) := by decide +kernel
theorem dX2_countWaiting_16 : decode cX2_countWaiting 16 = .ok (.iload_n 3, 1) := by decide +kernel
theorem dX2_countWaiting_17 : decode cX2_countWaiting 17 = .ok (.aaload, 1) := by decide +kernel
theorem dX2_countWaiting_18 : decode cX2_countWaiting 18 = .ok (.iload_n 1, 1) := by decide +kernel
theorem dX2_countWaiting_19 : decode cX2_countWaiting 19 = .ok (.invokevirtual 45, 3) := by decide +kernel
theorem dX2_countWaiting_22 : decode cX2_countWaiting 22 = .ok (.ifCond .le 6, 3) := by decide +kernel
theorem dX2_countWaiting_25 : decode cX2_countWaiting 25 = .ok (.iinc 2 1, 3) := by decide +kernel
theorem dX2_countWaiting_28 : decode cX2_countWaiting 28 = .ok (.iinc 3 1, 3) := by decide +kernel
theorem dX2_countWaiting_31 : decode cX2_countWaiting 31 = .ok (.goto (-27), 3) := by decide +kernel
theorem dX2_countWaiting_34 : decode cX2_countWaiting 34 = .ok (.iload_n 2, 1) := by decide +kernel
theorem dX2_countWaiting_35 : decode cX2_countWaiting 35 = .ok (.ireturn, 1) := by decide +kernel
theorem dX2_doneTasks_0 : decode cX2_doneTasks 0 = .ok (.iconst 0, 1) := by decide +kernel
theorem dX2_doneTasks_1 : decode cX2_doneTasks 1 = .ok (.istore_n 1, 1) := by decide +kernel
theorem dX2_doneTasks_2 : decode cX2_doneTasks 2 = .ok (.iconst 0, 1) := by decide +kernel
theorem dX2_doneTasks_3 : decode cX2_doneTasks 3 = .ok (.istore_n 2, 1) := by decide +kernel
theorem dX2_doneTasks_4 : decode cX2_doneTasks 4 = .ok (.iload_n 2, 1) := by decide +kernel
theorem dX2_doneTasks_5 : decode cX2_doneTasks 5 = .ok (.aload_n 0, 1) := by decide +kernel
theorem dX2_doneTasks_6 : decode cX2_doneTasks 6 = .ok (.getfield 25, 3) := by decide +kernel
theorem dX2_doneTasks_9 : decode cX2_doneTasks 9 = .ok (.if_icmp .ge 24, 3) := by decide +kernel
theorem dX2_doneTasks_12 : decode cX2_doneTasks 12 = .ok (.aload_n 0, 1) := by decide +kernel
theorem dX2_doneTasks_13 : decode cX2_doneTasks 13 = .ok (.iload_n 2, 1) := by decide +kernel
theorem dX2_doneTasks_14 : decode cX2_doneTasks 14 = .ok (.iload_n 1, 1) := by decide +kernel
theorem dX2_doneTasks_15 : decode cX2_doneTasks 15 = .ok (.invokevirtual 49, 3) := by decide +kernel
theorem dX2_doneTasks_18 : decode cX2_doneTasks 18 = .ok (.ifCond .eq 9, 3) := by decide +kernel
theorem dX2_doneTasks_21 : decode cX2_doneTasks 21 = .ok (.iload_n 1, 1) := by decide +kernel
theorem dX2_doneTasks_22 : decode cX2_doneTasks 22 = .ok (.iconst 1, 1) := by decide +kernel
theorem dX2_doneTasks_23 : decode cX2_doneTasks 23 = .ok (.iload_n 2, 1) := by decide +kernel
theorem dX2_doneTasks_24 : decode cX2_doneTasks 24 = .ok (.ishl, 1) := by decide +kernel
theorem dX2_doneTasks_25 : decode cX2_doneTasks 25 = .ok (.ior, 1) := by decide +kernel
theorem dX2_doneTasks_26 : decode cX2_doneTasks 26 = .ok (.istore_n 1, 1) := by decide +kernel
theorem dX2_doneTasks_27 : decode cX2_doneTasks 27 = .ok (.iinc 2 1, 3) := by decide +kernel
theorem dX2_doneTasks_30 : decode cX2_doneTasks 30 = .ok (.goto (-26), 3) := by decide +kernel
theorem dX2_doneTasks_33 : decode cX2_doneTasks 33 = .ok (.iload_n 1, 1) := by decide +kernel
theorem dX2_doneTasks_34 : decode cX2_doneTasks 34 = .ok (.ireturn, 1) := by decide +kernel
theorem dX2_isDone_0 : decode cX2_isDone 0 = .ok (.aload_n 0, 1) := by decide +kernel
theorem dX2_isDone_1 : decode cX2_isDone 1 = .ok (.getfield 11, 3) := by decide +kernel
theorem dX2_isDone_4 : decode cX2_isDone 4 = .ok (.iload_n 1, 1) := by decide +kernel
theorem dX2_isDone_5 : decode cX2_isDone 5 = .ok (.aaload, 1) := by decide +kernel
theorem dX2_isDone_6 : decode cX2_isDone 6 = .ok (.getfield 53, 3) := by decide +kernel
theorem dX2_isDone_9 : decode cX2_isDone 9 = .ok (.ifCond .ne 30, 3) := by decide +kernel
theorem dX2_isDone_12 : decode cX2_isDone 12 = .ok (.aload_n 0, 1) := by decide +kernel
theorem dX2_isDone_13 : decode cX2_isDone 13 = .ok (.getfield 11, 3) := by decide +kernel
theorem dX2_isDone_16 : decode cX2_isDone 16 = .ok (.iload_n 1, 1) := by decide +kernel
theorem dX2_isDone_17 : decode cX2_isDone 17 = .ok (.aaload, 1) := by decide +kernel
theorem dX2_isDone_18 : decode cX2_isDone 18 = .ok (.getfield 56, 3) := by decide +kernel
theorem dX2_isDone_21 : decode cX2_isDone 21 = .ok (.aload_n 0, 1) := by decide +kernel
theorem dX2_isDone_22 : decode cX2_isDone 22 = .ok (.getfield 11, 3) := by decide +kernel
theorem dX2_isDone_25 : decode cX2_isDone 25 = .ok (.iload_n 1, 1) := by decide +kernel
theorem dX2_isDone_26 : decode cX2_isDone 26 = .ok (.aaload, 1) := by decide +kernel
theorem dX2_isDone_27 : decode cX2_isDone 27 = .ok (.getfield 59, 3) := by decide +kernel
theorem dX2_isDone_30 : decode cX2_isDone 30 = .ok (.if_icmp .lt 7, 3) := by decide +kernel
theorem dX2_isDone_33 : decode cX2_isDone 33 = .ok (.iconst 1, 1) := by decide +kernel
theorem dX2_isDone_34 : decode cX2_isDone 34 = .ok (.goto 4, 3) := by decide +kernel
theorem dX2_isDone_37 : decode cX2_isDone 37 = .ok (.iconst 0, 1) := by decide +kernel
theorem dX2_isDone_38 : decode cX2_isDone 38 = .ok (.ireturn, 1) := by decide +kernel
theorem dX2_isDone_39 : decode cX2_isDone 39 = .ok (.iconst 0, 1) := by decide +kernel
theorem dX2_isDone_40 : decode cX2_isDone 40 = .ok (.istore_n 3, 1) := by decide +kernel
theorem dX2_isDone_41 : decode cX2_isDone 41 = .ok (.iload_n 3, 1) := by decide +kernel
theorem dX2_isDone_42 : decode cX2_isDone 42 = .ok (.aload_n 0, 1) := by decide +kernel
theorem dX2_isDone_43 : decode cX2_isDone 43 = .ok (.getfield 29, 3) := by decide +kernel
theorem dX2_isDone_46 : decode cX2_isDone 46 = .ok (.if_icmp .ge 42, 3) := by decide +kernel
theorem dX2_isDone_49 : decode cX2_isDone 49 = .ok (.aload_n 0, 1) := by decide +kernel
theorem dX2_isDone_50 : decode cX2_isDone 50 = .ok (.getfield 19, 3) := by decide +kernel
theorem dX2_isDone_53 : decode cX2_isDone 53 = .ok (.iload_n 3, 1) := by decide +kernel
theorem dX2_isDone_54 : decode cX2_isDone 54 = .ok (.aaload, 1) := by decide +kernel
theorem dX2_isDone_55 : decode cX2_isDone 55 = .ok (.astore 4, 2) := by decide +kernel
theorem dX2_isDone_57 : decode cX2_isDone 57 = .ok (.aload 4, 2) := by decide +kernel
theorem dX2_isDone_59 : decode cX2_isDone 59 = .ok (.getfield 62, 3) := by decide +kernel
theorem dX2_isDone_62 : decode cX2_isDone 62 = .ok (.iload_n 1, 1) := by decide +kernel
theorem dX2_isDone_63 : decode cX2_isDone 63 = .ok (.if_icmp .ne 19, 3) := by decide +kernel
theorem dX2_isDone_66 : decode cX2_isDone 66 = .ok (.aload 4, 2) := by decide +kernel
theorem dX2_isDone_68 : decode cX2_isDone 68 = .ok (.aload 4, 2) := by decide +kernel
theorem dX2_isDone_70 : decode cX2_isDone 70 = .ok (.getfield 65, 3) := by decide +kernel
theorem dX2_isDone_73 : decode cX2_isDone 73 = .ok (.iload_n 2, 1) := by decide +kernel
theorem dX2_isDone_74 : decode cX2_isDone 74 = .ok (.invokevirtual 68, 3) := by decide +kernel
theorem dX2_isDone_77 : decode cX2_isDone 77 = .ok (.ifCond .ne 5, 3) := by decide +kernel
theorem dX2_isDone_80 : decode cX2_isDone 80 = .ok (.iconst 0, 1) := by decide +kernel
theorem dX2_isDone_81 : decode cX2_isDone 81 = .ok (.ireturn, 1) := by decide +kernel
theorem dX2_isDone_82 : decode cX2_isDone 82 = .ok (.iinc 3 1, 3) := by decide +kernel
theorem dX2_isDone_85 : decode cX2_isDone 85 = .ok (.goto (-44), 3) := by decide +kernel
theorem dX2_isDone_88 : decode cX2_isDone 88 = .ok (.iconst 1, 1) := by decide +kernel
theorem dX2_isDone_89 : decode cX2_isDone 89 = .ok (.ireturn, 1) := by decide +kernel
theorem dX2_roomOf_0 : decode cX2_roomOf 0 = .ok (.aload_n 0, 1) := by decide +kernel
theorem dX2_roomOf_1 : decode cX2_roomOf 1 = .ok (.getfield 11, 3) := by decide +kernel
theorem dX2_roomOf_4 : decode cX2_roomOf 4 = .ok (.iload_n 1, 1) := by decide +kernel
theorem dX2_roomOf_5 : decode cX2_roomOf 5 = .ok (.aaload, 1) := by decide +kernel
theorem dX2_roomOf_6 : decode cX2_roomOf 6 = .ok (.getfield 53, 3) := by decide +kernel
theorem dX2_roomOf_9 : decode cX2_roomOf 9 = .ok (.iconst 5, 1) := by decide +kernel
theorem dX2_roomOf_10 : decode cX2_roomOf 10 = .ok (.if_icmp .ne 17, 3) := by decide +kernel
theorem dX2_roomOf_13 : decode cX2_roomOf 13 = .ok (.sipush 200, 3) := by decide +kernel
theorem dX2_roomOf_16 : decode cX2_roomOf 16 = .ok (.aload_n 0, 1) := by decide +kernel
theorem dX2_roomOf_17 : decode cX2_roomOf 17 = .ok (.getfield 11, 3) := by decide +kernel
theorem dX2_roomOf_20 : decode cX2_roomOf 20 = .ok (.iload_n 1, 1) := by decide +kernel
theorem dX2_roomOf_21 : decode cX2_roomOf 21 = .ok (.aaload, 1) := by decide +kernel
theorem dX2_roomOf_22 : decode cX2_roomOf 22 = .ok (.getfield 71, 3) := by decide +kernel
theorem dX2_roomOf_25 : decode cX2_roomOf 25 = .ok (.isub, 1) := by decide +kernel
theorem dX2_roomOf_26 : decode cX2_roomOf 26 = .ok (.ireturn, 1) := by decide +kernel
theorem dX2_roomOf_27 : decode cX2_roomOf 27 = .ok (.bipush 64, 2) := by decide +kernel
theorem dX2_roomOf_29 : decode cX2_roomOf 29 = .ok (.istore_n 2, 1) := by decide +kernel
theorem dX2_roomOf_30 : decode cX2_roomOf 30 = .ok (.iconst 0, 1) := by decide +kernel
theorem dX2_roomOf_31 : decode cX2_roomOf 31 = .ok (.istore_n 3, 1) := by decide +kernel
theorem dX2_roomOf_32 : decode cX2_roomOf 32 = .ok (.iload_n 3, 1) := by decide +kernel
theorem dX2_roomOf_33 : decode cX2_roomOf 33 = .ok (.aload_n 0, 1) := by decide +kernel
theorem dX2_roomOf_34 : decode cX2_roomOf 34 = .ok (.getfield 29, 3) := by decide +kernel
theorem dX2_roomOf_37 : decode cX2_roomOf 37 = .ok (.if_icmp .ge 39, 3) := by decide +kernel
theorem dX2_roomOf_40 : decode cX2_roomOf 40 = .ok (.aload_n 0, 1) := by decide +kernel
theorem dX2_roomOf_41 : decode cX2_roomOf 41 = .ok (.getfield 19, 3) := by decide +kernel
theorem dX2_roomOf_44 : decode cX2_roomOf 44 = .ok (.iload_n 3, 1) := by decide +kernel
theorem dX2_roomOf_45 : decode cX2_roomOf 45 = .ok (.aaload, 1) := by decide +kernel
theorem dX2_roomOf_46 : decode cX2_roomOf 46 = .ok (.getfield 74, 3) := by decide +kernel
theorem dX2_roomOf_49 : decode cX2_roomOf 49 = .ok (.iload_n 1, 1) := by decide +kernel
