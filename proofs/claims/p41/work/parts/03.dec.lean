theorem dX0_init_0 : decode cX0_init 0 = .ok (.aload_n 0, 1) := by decide +kernel
theorem dX0_init_1 : decode cX0_init 1 = .ok (.invokespecial 3, 3) := by decide +kernel
theorem dX0_init_4 : decode cX0_init 4 = .ok (.aload_n 0, 1) := by decide +kernel
theorem dX0_init_5 : decode cX0_init 5 = .ok (.iload_n 1, 1) := by decide +kernel
theorem dX0_init_6 : decode cX0_init 6 = .ok (.putfield 9, 3) := by decide +kernel
theorem dX0_init_9 : decode cX0_init 9 = .ok (.aload_n 0, 1) := by decide +kernel
theorem dX0_init_10 : decode cX0_init 10 = .ok (.aload_n 2, 1) := by decide +kernel
theorem dX0_init_11 : decode cX0_init 11 = .ok (.putfield 15, 3) := by decide +kernel
theorem dX0_init_14 : decode cX0_init 14 = .ok (.aload_n 0, 1) := by decide +kernel
theorem dX0_init_15 : decode cX0_init 15 = .ok (.aload_n 3, 1) := by decide +kernel
theorem dX0_init_16 : decode cX0_init 16 = .ok (.putfield 19, 3) := by decide +kernel
theorem dX0_init_19 : decode cX0_init 19 = .ok (.aload_n 0, 1) := by decide +kernel
theorem dX0_init_20 : decode cX0_init 20 = .ok (.aload 4, 2) := by decide +kernel
theorem dX0_init_22 : decode cX0_init 22 = .ok (.putfield 23, 3) := by decide +kernel
theorem dX0_init_25 : decode cX0_init 25 = .ok (.aload_n 0, 1) := by decide +kernel
theorem dX0_init_26 : decode cX0_init 26 = .ok (.iload 5, 2) := by decide +kernel
theorem dX0_init_28 : decode cX0_init 28 = .ok (.putfield 27, 3) := by decide +kernel
theorem dX0_init_31 : decode cX0_init 31 = .ok (.return_, 1) := by decide +kernel
theorem dX0_gradeByRule_0 : decode cX0_gradeByRule 0 = .ok (.iconst 0, 1) := by decide +kernel
theorem dX0_gradeByRule_1 : decode cX0_gradeByRule 1 = .ok (.istore_n 1, 1) := by decide +kernel
theorem dX0_gradeByRule_2 : decode cX0_gradeByRule 2 = .ok (.iconst 0, 1) := by decide +kernel
theorem dX0_gradeByRule_3 : decode cX0_gradeByRule 3 = .ok (.istore_n 2, 1) := by decide +kernel
theorem dX0_gradeByRule_4 : decode cX0_gradeByRule 4 = .ok (.iload_n 2, 1) := by decide +kernel
theorem dX0_gradeByRule_5 : decode cX0_gradeByRule 5 = .ok (.aload_n 0, 1) := by decide +kernel
theorem dX0_gradeByRule_6 : decode cX0_gradeByRule 6 = .ok (.getfield 19, 3) := by decide +kernel
theorem dX0_gradeByRule_9 : decode cX0_gradeByRule 9 = .ok (.getfield 30, 3) := by decide +kernel
theorem dX0_gradeByRule_12 : decode cX0_gradeByRule 12 = .ok (.if_icmp .ge 24, 3) := by decide +kernel
theorem dX0_gradeByRule_15 : decode cX0_gradeByRule 15 = .ok (.iload_n 1, 1) := by decide +kernel
theorem dX0_gradeByRule_16 : decode cX0_gradeByRule 16 = .ok (.aload_n 0, 1) := by decide +kernel
theorem dX0_gradeByRule_17 : decode cX0_gradeByRule 17 = .ok (.getfield 19, 3) := by decide +kernel
theorem dX0_gradeByRule_20 : decode cX0_gradeByRule 20 = .ok (.aload_n 0, 1) := by decide +kernel
theorem dX0_gradeByRule_21 : decode cX0_gradeByRule 21 = .ok (.getfield 23, 3) := by decide +kernel
theorem dX0_gradeByRule_24 : decode cX0_gradeByRule 24 = .ok (.iload_n 2, 1) := by decide +kernel
theorem dX0_gradeByRule_25 : decode cX0_gradeByRule 25 = .ok (.invokevirtual 35, 3) := by decide +kernel
theorem dX0_gradeByRule_28 : decode cX0_gradeByRule 28 = .ok (.iadd, 1) := by decide +kernel
theorem dX0_gradeByRule_29 : decode cX0_gradeByRule 29 = .ok (.istore_n 1, 1) := by decide +kernel
theorem dX0_gradeByRule_30 : decode cX0_gradeByRule 30 = .ok (.iinc 2 1, 3) := by decide +kernel
theorem dX0_gradeByRule_33 : decode cX0_gradeByRule 33 = .ok (.goto (-29), 3) := by decide +kernel
theorem dX0_gradeByRule_36 : decode cX0_gradeByRule 36 = .ok (.aload_n 0, 1) := by decide +kernel
theorem dX0_gradeByRule_37 : decode cX0_gradeByRule 37 = .ok (.getfield 19, 3) := by decide +kernel
theorem dX0_gradeByRule_40 : decode cX0_gradeByRule 40 = .ok (.getfield 39, 3) := by decide +kernel
theorem dX0_gradeByRule_43 : decode cX0_gradeByRule 43 = .ok (.ifCond .ne 7, 3) := by decide +kernel
theorem dX0_gradeByRule_46 : decode cX0_gradeByRule 46 = .ok (.iconst 0, 1) := by decide +kernel
theorem dX0_gradeByRule_47 : decode cX0_gradeByRule 47 = .ok (.goto 15, 3) := by decide +kernel
theorem dX0_gradeByRule_50 : decode cX0_gradeByRule 50 = .ok (.bipush 100, 2) := by decide +kernel
theorem dX0_gradeByRule_52 : decode cX0_gradeByRule 52 = .ok (.iload_n 1, 1) := by decide +kernel
theorem dX0_gradeByRule_53 : decode cX0_gradeByRule 53 = .ok (.imul, 1) := by decide +kernel
theorem dX0_gradeByRule_54 : decode cX0_gradeByRule 54 = .ok (.aload_n 0, 1) := by decide +kernel
theorem dX0_gradeByRule_55 : decode cX0_gradeByRule 55 = .ok (.getfield 19, 3) := by decide +kernel
theorem dX0_gradeByRule_58 : decode cX0_gradeByRule 58 = .ok (.getfield 39, 3) := by decide +kernel
theorem dX0_gradeByRule_61 : decode cX0_gradeByRule 61 = .ok (.idiv, 1) := by decide +kernel
theorem dX0_gradeByRule_62 : decode cX0_gradeByRule 62 = .ok (.istore_n 2, 1) := by decide +kernel
theorem dX0_gradeByRule_63 : decode cX0_gradeByRule 63 = .ok (.bipush 100, 2) := by decide +kernel
theorem dX0_gradeByRule_65 : decode cX0_gradeByRule 65 = .ok (.iload_n 2, 1) := by decide +kernel
theorem dX0_gradeByRule_66 : decode cX0_gradeByRule 66 = .ok (.aload_n 0, 1) := by decide +kernel
theorem dX0_gradeByRule_67 : decode cX0_gradeByRule 67 = .ok (.getfield 42, 3) := by decide +kernel
theorem dX0_gradeByRule_70 : decode cX0_gradeByRule 70 = .ok (.iadd, 1) := by decide +kernel
theorem dX0_gradeByRule_71 : decode cX0_gradeByRule 71 = .ok (.invokestatic 45, 3) := by decide +kernel
theorem dX0_gradeByRule_74 : decode cX0_gradeByRule 74 = .ok (.ireturn, 1) := by decide +kernel
theorem dX0_worth_0 : decode cX0_worth 0 = .ok (.iconst 0, 1) := by decide +kernel
theorem dX0_worth_1 : decode cX0_worth 1 = .ok (.iload_n 1, 1) := by decide +kernel
theorem dX0_worth_2 : decode cX0_worth 2 = .ok (.aload_n 0, 1) := by decide +kernel
theorem dX0_worth_3 : decode cX0_worth 3 = .ok (.getfield 19, 3) := by decide +kernel
theorem dX0_worth_6 : decode cX0_worth 6 = .ok (.getfield 51, 3) := by decide +kernel
theorem dX0_worth_9 : decode cX0_worth 9 = .ok (.getfield 55, 3) := by decide +kernel
theorem dX0_worth_12 : decode cX0_worth 12 = .ok (.iload_n 2, 1) := by decide +kernel
theorem dX0_worth_13 : decode cX0_worth 13 = .ok (.aload_n 0, 1) := by decide +kernel
theorem dX0_worth_14 : decode cX0_worth 14 = .ok (.getfield 27, 3) := by decide +kernel
theorem dX0_worth_17 : decode cX0_worth 17 = .ok (.isub, 1) := by decide +kernel
theorem dX0_worth_18 : decode cX0_worth 18 = .ok (.imul, 1) := by decide +kernel
theorem dX0_worth_19 : decode cX0_worth 19 = .ok (.isub, 1) := by decide +kernel
theorem dX0_worth_20 : decode cX0_worth 20 = .ok (.invokestatic 60, 3) := by decide +kernel
theorem dX0_worth_23 : decode cX0_worth 23 = .ok (.ireturn, 1) := by decide +kernel
theorem dX0_meetMend_0 : decode cX0_meetMend 0 = .ok (.aload_n 0, 1) := by decide +kernel
theorem dX0_meetMend_1 : decode cX0_meetMend 1 = .ok (.iconst 0, 1) := by decide +kernel
theorem dX0_meetMend_2 : decode cX0_meetMend 2 = .ok (.putfield 63, 3) := by decide +kernel
theorem dX0_meetMend_5 : decode cX0_meetMend 5 = .ok (.aload_n 0, 1) := by decide +kernel
theorem dX0_meetMend_6 : decode cX0_meetMend 6 = .ok (.iconst 0, 1) := by decide +kernel
theorem dX0_meetMend_7 : decode cX0_meetMend 7 = .ok (.putfield 67, 3) := by decide +kernel
theorem dX0_meetMend_10 : decode cX0_meetMend 10 = .ok (.aload_n 0, 1) := by decide +kernel
theorem dX0_meetMend_11 : decode cX0_meetMend 11 = .ok (.iconst 0, 1) := by decide +kernel
theorem dX0_meetMend_12 : decode cX0_meetMend 12 = .ok (.putfield 42, 3) := by decide +kernel
theorem dX0_meetMend_15 : decode cX0_meetMend 15 = .ok (.aload_n 0, 1) := by decide +kernel
theorem dX0_meetMend_16 : decode cX0_meetMend 16 = .ok (.getfield 70, 3) := by decide +kernel
theorem dX0_meetMend_19 : decode cX0_meetMend 19 = .ok (.istore_n 1, 1) := by decide +kernel
theorem dX0_meetMend_20 : decode cX0_meetMend 20 = .ok (.aload_n 0, 1) := by decide +kernel
theorem dX0_meetMend_21 : decode cX0_meetMend 21 = .ok (.aload_n 0, 1) := by decide +kernel
theorem dX0_meetMend_22 : decode cX0_meetMend 22 = .ok (.invokevirtual 73, 3) := by decide +kernel
theorem dX0_meetMend_25 : decode cX0_meetMend 25 = .ok (.putfield 70, 3) := by decide +kernel
theorem dX0_meetMend_28 : decode cX0_meetMend 28 = .ok (.aload_n 0, 1) := by decide +kernel
theorem dX0_meetMend_29 : decode cX0_meetMend 29 = .ok (.iload_n 1, 1) := by decide +kernel
theorem dX0_meetMend_30 : decode cX0_meetMend 30 = .ok (.aload_n 0, 1) := by decide +kernel
theorem dX0_meetMend_31 : decode cX0_meetMend 31 = .ok (.getfield 70, 3) := by decide +kernel
theorem dX0_meetMend_34 : decode cX0_meetMend 34 = .ok (.isub, 1) := by decide +kernel
theorem dX0_meetMend_35 : decode cX0_meetMend 35 = .ok (.putfield 77, 3) := by decide +kernel
theorem dX0_meetMend_38 : decode cX0_meetMend 38 = .ok (.return_, 1) := by decide +kernel
theorem dX1_init_0 : decode cX1_init 0 = .ok (.aload_n 0, 1) := by decide +kernel
theorem dX1_init_1 : decode cX1_init 1 = .ok (.invokespecial 1, 3) := by decide +kernel
theorem dX1_init_4 : decode cX1_init 4 = .ok (.aload_n 0, 1) := by decide +kernel
theorem dX1_init_5 : decode cX1_init 5 = .ok (.iconst 1, 1) := by decide +kernel
theorem dX1_init_6 : decode cX1_init 6 = .ok (.putfield 7, 3) := by decide +kernel
theorem dX1_init_9 : decode cX1_init 9 = .ok (.aload_n 0, 1) := by decide +kernel
theorem dX1_init_10 : decode cX1_init 10 = .ok (.iload_n 1, 1) := by decide +kernel
theorem dX1_init_11 : decode cX1_init 11 = .ok (.putfield 13, 3) := by decide +kernel
theorem dX1_init_14 : decode cX1_init 14 = .ok (.aload_n 0, 1) := by decide +kernel
theorem dX1_init_15 : decode cX1_init 15 = .ok (.aload_n 2, 1) := by decide +kernel
theorem dX1_init_16 : decode cX1_init 16 = .ok (.putfield 17, 3) := by decide +kernel
theorem dX1_init_19 : decode cX1_init 19 = .ok (.aload_n 0, 1) := by decide +kernel
theorem dX1_init_20 : decode cX1_init 20 = .ok (.aload_n 3, 1) := by decide +kernel
theorem dX1_init_21 : decode cX1_init 21 = .ok (.putfield 21, 3) := by decide +kernel
theorem dX1_init_24 : decode cX1_init 24 = .ok (.aload_n 0, 1) := by decide +kernel
theorem dX1_init_25 : decode cX1_init 25 = .ok (.aload 4, 2) := by decide +kernel
theorem dX1_init_27 : decode cX1_init 27 = .ok (.putfield 25, 3) := by decide +kernel
theorem dX1_init_30 : decode cX1_init 30 = .ok (.return_, 1) := by decide +kernel
theorem dX2_init_0 : decode cX2_init 0 = .ok (.aload_n 0, 1) := by decide +kernel
theorem dX2_init_1 : decode cX2_init 1 = .ok (.invokespecial 1, 3) := by decide +kernel
theorem dX2_init_4 : decode cX2_init 4 = .ok (.aload_n 0, 1) := by decide +kernel
theorem dX2_init_5 : decode cX2_init 5 = .ok (.iload_n 1, 1) := by decide +kernel
theorem dX2_init_6 : decode cX2_init 6 = .ok (.putfield 7, 3) := by decide +kernel
theorem dX2_init_9 : decode cX2_init 9 = .ok (.aload_n 0, 1) := by decide +kernel
theorem dX2_init_10 : decode cX2_init 10 = .ok (.iload_n 2, 1) := by decide +kernel
theorem dX2_init_11 : decode cX2_init 11 = .ok (.putfield 13, 3) := by decide +kernel
theorem dX2_init_14 : decode cX2_init 14 = .ok (.return_, 1) := by decide +kernel
theorem dX3_init_0 : decode cX3_init 0 = .ok (.aload_n 0, 1) := by decide +kernel
theorem dX3_init_1 : decode cX3_init 1 = .ok (.invokespecial 1, 3) := by decide +kernel
theorem dX3_init_4 : decode cX3_init 4 = .ok (.aload_n 0, 1) := by decide +kernel
theorem dX3_init_5 : decode cX3_init 5 = .ok (.iload_n 1, 1) := by decide +kernel
theorem dX3_init_6 : decode cX3_init 6 = .ok (.putfield 7, 3) := by decide +kernel
theorem dX3_init_9 : decode cX3_init 9 = .ok (.aload_n 0, 1) := by decide +kernel
theorem dX3_init_10 : decode cX3_init 10 = .ok (.iload_n 2, 1) := by decide +kernel
theorem dX3_init_11 : decode cX3_init 11 = .ok (.putfield 13, 3) := by decide +kernel
theorem dX3_init_14 : decode cX3_init 14 = .ok (.return_, 1) := by decide +kernel
theorem dX4_init_0 : decode cX4_init 0 = .ok (.aload_n 0, 1) := by decide +kernel
theorem dX4_init_1 : decode cX4_init 1 = .ok (.invokespecial 3, 3) := by decide +kernel
theorem dX4_init_4 : decode cX4_init 4 = .ok (.aload_n 0, 1) := by decide +kernel
theorem dX4_init_5 : decode cX4_init 5 = .ok (.bipush 6, 2) := by decide +kernel
theorem dX4_init_7 : decode cX4_init 7 = .ok (.newarray .int, 2) := by decide +kernel
theorem dX4_init_9 : decode cX4_init 9 = .ok (.putfield 9, 3) := by decide +kernel
theorem dX4_init_12 : decode cX4_init 12 = .ok (.aload_n 0, 1) := by decide +kernel
theorem dX4_init_13 : decode cX4_init 13 = .ok (.bipush 6, 2) := by decide +kernel
theorem dX4_init_15 : decode cX4_init 15 = .ok (.newarray .int, 2) := by decide +kernel
theorem dX4_init_17 : decode cX4_init 17 = .ok (.putfield 15, 3) := by decide +kernel
theorem dX4_init_20 : decode cX4_init 20 = .ok (.aload_n 0, 1) := by decide +kernel
theorem dX4_init_21 : decode cX4_init 21 = .ok (.new 18, 3) := by decide +kernel
theorem dX4_init_24 : decode cX4_init 24 = .ok (.dup, 1) := by decide +kernel
theorem dX4_init_25 : decode cX4_init 25 = .ok (.invokespecial 20, 3) := by decide +kernel
theorem dX4_init_28 : decode cX4_init 28 = .ok (.putfield 21, 3) := by decide +kernel
theorem dX4_init_31 : decode cX4_init 31 = .ok (.aload_n 0, 1) := by decide +kernel
theorem dX4_init_32 : decode cX4_init 32 = .ok (.iload_n 1, 1) := by decide +kernel
theorem dX4_init_33 : decode cX4_init 33 = .ok (.putfield 25, 3) := by decide +kernel
theorem dX4_init_36 : decode cX4_init 36 = .ok (.aload_n 0, 1) := by decide +kernel
theorem dX4_init_37 : decode cX4_init 37 = .ok (.aload_n 2, 1) := by decide +kernel
theorem dX4_init_38 : decode cX4_init 38 = .ok (.putfield 29, 3) := by decide +kernel
theorem dX4_init_41 : decode cX4_init 41 = .ok (.aload_n 0, 1) := by decide +kernel
theorem dX4_init_42 : decode cX4_init 42 = .ok (.aload_n 3, 1) := by decide +kernel
theorem dX4_init_43 : decode cX4_init 43 = .ok (.putfield 33, 3) := by decide +kernel
theorem dX4_init_46 : decode cX4_init 46 = .ok (.aload_n 0, 1) := by decide +kernel
theorem dX4_init_47 : decode cX4_init 47 = .ok (.iload 4, 2) := by decide +kernel
theorem dX4_init_49 : decode cX4_init 49 = .ok (.putfield 37, 3) := by decide +kernel
theorem dX4_init_52 : decode cX4_init 52 = .ok (.return_, 1) := by decide +kernel
theorem dX4_putCase_0 : decode cX4_putCase 0 = .ok (.aload_n 0, 1) := by decide +kernel
theorem dX4_putCase_1 : decode cX4_putCase 1 = .ok (.getfield 40, 3) := by decide +kernel
theorem dX4_putCase_4 : decode cX4_putCase 4 = .ok (.bipush 6, 2) := by decide +kernel
theorem dX4_putCase_6 : decode cX4_putCase 6 = .ok (.if_icmp .ge 43, 3) := by decide +kernel
theorem dX4_putCase_9 : decode cX4_putCase 9 = .ok (.aload_n 0, 1) := by decide +kernel
theorem dX4_putCase_10 : decode cX4_putCase 10 = .ok (.getfield 9, 3) := by decide +kernel
theorem dX4_putCase_13 : decode cX4_putCase 13 = .ok (.aload_n 0, 1) := by decide +kernel
theorem dX4_putCase_14 : decode cX4_putCase 14 = .ok (.getfield 40, 3) := by decide +kernel
theorem dX4_putCase_17 : decode cX4_putCase 17 = .ok (.iload_n 1, 1) := by decide +kernel
theorem dX4_putCase_18 : decode cX4_putCase 18 = .ok (.iastore, 1) := by decide +kernel
theorem dX4_putCase_19 : decode cX4_putCase 19 = .ok (.aload_n 0, 1) := by decide +kernel
theorem dX4_putCase_20 : decode cX4_putCase 20 = .ok (.getfield 15, 3) := by decide +kernel
theorem dX4_putCase_23 : decode cX4_putCase 23 = .ok (.aload_n 0, 1) := by decide +kernel
theorem dX4_putCase_24 : decode cX4_putCase 24 = .ok (.getfield 40, 3) := by decide +kernel
theorem dX4_putCase_27 : decode cX4_putCase 27 = .ok (.iload_n 2, 1) := by decide +kernel
theorem dX4_putCase_28 : decode cX4_putCase 28 = .ok (.iastore, 1) := by decide +kernel
theorem dX4_putCase_29 : decode cX4_putCase 29 = .ok (.aload_n 0, 1) := by decide +kernel
theorem dX4_putCase_30 : decode cX4_putCase 30 = .ok (.dup, 1) := by decide +kernel
theorem dX4_putCase_31 : decode cX4_putCase 31 = .ok (.getfield 43, 3) := by decide +kernel
theorem dX4_putCase_34 : decode cX4_putCase 34 = .ok (.iload_n 2, 1) := by decide +kernel
theorem dX4_putCase_35 : decode cX4_putCase 35 = .ok (.iadd, 1) := by decide +kernel
theorem dX4_putCase_36 : decode cX4_putCase 36 = .ok (.putfield 43, 3) := by decide +kernel
theorem dX4_putCase_39 : decode cX4_putCase 39 = .ok (.aload_n 0, 1) := by decide +kernel
theorem dX4_putCase_40 : decode cX4_putCase 40 = .ok (.dup, 1) := by decide +kernel
theorem dX4_putCase_41 : decode cX4_putCase 41 = .ok (.getfield 40, 3) := by decide +kernel
theorem dX4_putCase_44 : decode cX4_putCase 44 = .ok (.iconst 1, 1) := by decide +kernel
theorem dX4_putCase_45 : decode cX4_putCase 45 = .ok (.iadd, 1) := by decide +kernel
theorem dX4_putCase_46 : decode cX4_putCase 46 = .ok (.putfield 40, 3) := by decide +kernel
theorem dX4_putCase_49 : decode cX4_putCase 49 = .ok (.return_, 1) := by decide +kernel
theorem dX4_creditFor_0 : decode cX4_creditFor 0 = .ok (.iload_n 2, 1) := by decide +kernel
theorem dX4_creditFor_1 : decode cX4_creditFor 1 = .ok (.ifCond .lt 11, 3) := by decide +kernel
theorem dX4_creditFor_4 : decode cX4_creditFor 4 = .ok (.iload_n 2, 1) := by decide +kernel
theorem dX4_creditFor_5 : decode cX4_creditFor 5 = .ok (.aload_n 0, 1) := by decide +kernel
theorem dX4_creditFor_6 : decode cX4_creditFor 6 = .ok (.getfield 40, 3) := by decide +kernel
theorem dX4_creditFor_9 : decode cX4_creditFor 9 = .ok (.if_icmp .lt 5, 3) := by decide +kernel
theorem dX4_creditFor_12 : decode cX4_creditFor 12 = .ok (.iconst 0, 1) := by decide +kernel
theorem dX4_creditFor_13 : decode cX4_creditFor 13 = .ok (.ireturn, 1) := by decide +kernel
theorem dX4_creditFor_14 : decode cX4_creditFor 14 = .ok (.aload_n 0, 1) := by decide +kernel
theorem dX4_creditFor_15 : decode cX4_creditFor 15 = .ok (.getfield 33, 3) := by decide +kernel
theorem dX4_creditFor_18 : decode cX4_creditFor 18 = .ok (.aload_n 0, 1) := by decide +kernel
theorem dX4_creditFor_19 : decode cX4_creditFor 19 = .ok (.getfield 9, 3) := by decide +kernel
theorem dX4_creditFor_22 : decode cX4_creditFor 22 = .ok (.iload_n 2, 1) := by decide +kernel
theorem dX4_creditFor_23 : decode cX4_creditFor 23 = .ok (.iaload, 1) := by decide +kernel
theorem dX4_creditFor_24 : decode cX4_creditFor 24 = .ok (.invokevirtual 46, 3) := by decide +kernel
theorem dX4_creditFor_27 : decode cX4_creditFor 27 = .ok (.aload_n 1, 1) := by decide +kernel
theorem dX4_creditFor_28 : decode cX4_creditFor 28 = .ok (.aload_n 0, 1) := by decide +kernel
theorem dX4_creditFor_29 : decode cX4_creditFor 29 = .ok (.getfield 9, 3) := by decide +kernel
theorem dX4_creditFor_32 : decode cX4_creditFor 32 = .ok (.iload_n 2, 1) := by decide +kernel
theorem dX4_creditFor_33 : decode cX4_creditFor 33 = .ok (.iaload, 1) := by decide +kernel
theorem dX4_creditFor_34 : decode cX4_creditFor 34 = .ok (.invokevirtual 46, 3) := by decide +kernel
theorem dX4_creditFor_37 : decode cX4_creditFor 37 = .ok (.isub, 1) := by decide +kernel
theorem dX4_creditFor_38 : decode cX4_creditFor 38 = .ok (.invokestatic 52, 3) := by decide +kernel
theorem dX4_creditFor_41 : decode cX4_creditFor 41 = .ok (.istore_n 3, 1) := by decide +kernel
theorem dX4_creditFor_42 : decode cX4_creditFor 42 = .ok (.aload_n 0, 1) := by decide +kernel
theorem dX4_creditFor_43 : decode cX4_creditFor 43 = .ok (.getfield 15, 3) := by decide +kernel
theorem dX4_creditFor_46 : decode cX4_creditFor 46 = .ok (.iload_n 2, 1) := by decide +kernel
theorem dX4_creditFor_47 : decode cX4_creditFor 47 = .ok (.iaload, 1) := by decide +kernel
theorem dX4_creditFor_48 : decode cX4_creditFor 48 = .ok (.istore 4, 2) := by decide +kernel
theorem dX4_creditFor_50 : decode cX4_creditFor 50 = .ok (.iload_n 3, 1) := by decide +kernel
theorem dX4_creditFor_51 : decode cX4_creditFor 51 = .ok (.ifCond .ne 6, 3) := by decide +kernel
theorem dX4_creditFor_54 : decode cX4_creditFor 54 = .ok (.iload 4, 2) := by decide +kernel
theorem dX4_creditFor_56 : decode cX4_creditFor 56 = .ok (.ireturn, 1) := by decide +kernel
theorem dX4_creditFor_57 : decode cX4_creditFor 57 = .ok (.aload_n 0, 1) := by decide +kernel
theorem dX4_creditFor_58 : decode cX4_creditFor 58 = .ok (.getfield 37, 3) := by decide +kernel
theorem dX4_creditFor_61 : decode cX4_creditFor 61 = .ok (.iconst 1, 1) := by decide +kernel
theorem dX4_creditFor_62 : decode cX4_creditFor 62 = .ok (.if_icmp .ne 13, 3) := by decide +kernel
theorem dX4_creditFor_65 : decode cX4_creditFor 65 = .ok (.iload_n 3, 1) := by decide +kernel
theorem dX4_creditFor_66 : decode cX4_creditFor 66 = .ok (.iconst 2, 1) := by decide +kernel
theorem dX4_creditFor_67 : decode cX4_creditFor 67 = .ok (.if_icmp .gt 8, 3) := by decide +kernel
theorem dX4_creditFor_70 : decode cX4_creditFor 70 = .ok (.iload 4, 2) := by decide +kernel
theorem dX4_creditFor_72 : decode cX4_creditFor 72 = .ok (.iconst 2, 1) := by decide +kernel
theorem dX4_creditFor_73 : decode cX4_creditFor 73 = .ok (.idiv, 1) := by decide +kernel
theorem dX4_creditFor_74 : decode cX4_creditFor 74 = .ok (.ireturn, 1) := by decide +kernel
theorem dX4_creditFor_75 : decode cX4_creditFor 75 = .ok (.aload_n 0, 1) := by decide +kernel
theorem dX4_creditFor_76 : decode cX4_creditFor 76 = .ok (.getfield 37, 3) := by decide +kernel
theorem dX4_creditFor_79 : decode cX4_creditFor 79 = .ok (.iconst 2, 1) := by decide +kernel
theorem dX4_creditFor_80 : decode cX4_creditFor 80 = .ok (.if_icmp .ne 16, 3) := by decide +kernel
theorem dX4_creditFor_83 : decode cX4_creditFor 83 = .ok (.iload_n 3, 1) := by decide +kernel
theorem dX4_creditFor_84 : decode cX4_creditFor 84 = .ok (.bipush 9, 2) := by decide +kernel
theorem dX4_creditFor_86 : decode cX4_creditFor 86 = .ok (.if_icmp .gt 10, 3) := by decide +kernel
theorem dX4_creditFor_89 : decode cX4_creditFor 89 = .ok (.iload 4, 2) := by decide +kernel
theorem dX4_creditFor_91 : decode cX4_creditFor 91 = .ok (.iconst 2, 1) := by decide +kernel
theorem dX4_creditFor_92 : decode cX4_creditFor 92 = .ok (.imul, 1) := by decide +kernel
theorem dX4_creditFor_93 : decode cX4_creditFor 93 = .ok (.iconst 3, 1) := by decide +kernel
theorem dX4_creditFor_94 : decode cX4_creditFor 94 = .ok (.idiv, 1) := by decide +kernel
theorem dX4_creditFor_95 : decode cX4_creditFor 95 = .ok (.ireturn, 1) := by decide +kernel
theorem dX4_creditFor_96 : decode cX4_creditFor 96 = .ok (.iconst 0, 1) := by decide +kernel
theorem dX4_creditFor_97 : decode cX4_creditFor 97 = .ok (.ireturn, 1) := by decide +kernel
theorem dX4_bestOf_0 : decode cX4_bestOf 0 = .ok (.aconst_null, 1) := by decide +kernel
theorem dX4_bestOf_1 : decode cX4_bestOf 1 = .ok (.astore_n 3, 1) := by decide +kernel
theorem dX4_bestOf_2 : decode cX4_bestOf 2 = .ok (.iconst (-1), 1) := by decide +kernel
theorem dX4_bestOf_3 : decode cX4_bestOf 3 = .ok (.istore 4, 2) := by decide +kernel
theorem dX4_bestOf_5 : decode cX4_bestOf 5 = .ok (.iconst 0, 1) := by decide +kernel
theorem dX4_bestOf_6 : decode cX4_bestOf 6 = .ok (.istore 5, 2) := by decide +kernel
theorem dX4_bestOf_8 : decode cX4_bestOf 8 = .ok (.iload 5, 2) := by decide +kernel
theorem dX4_bestOf_10 : decode cX4_bestOf 10 = .ok (.aload_n 0, 1) := by decide +kernel
theorem dX4_bestOf_11 : decode cX4_bestOf 11 = .ok (.getfield 21, 3) := by decide +kernel
theorem dX4_bestOf_14 : decode cX4_bestOf 14 = .ok (.invokevirtual 57, 3) := by decide +kernel
theorem dX4_bestOf_17 : decode cX4_bestOf 17 = .ok (.if_icmp .ge 74, 3) := by decide +kernel
theorem dX4_bestOf_20 : decode cX4_bestOf 20 = .ok (.aload_n 0, 1) := by decide +kernel
theorem dX4_bestOf_21 : decode cX4_bestOf 21 = .ok (.getfield 21, 3) := by decide +kernel
theorem dX4_bestOf_24 : decode cX4_bestOf 24 = .ok (.iload 5, 2) := by decide +kernel
theorem dX4_bestOf_26 : decode cX4_bestOf 26 = .ok (.invokevirtual 61, 3) := by decide +kernel
theorem dX4_bestOf_29 : decode cX4_bestOf 29 = .ok (.checkcast 65, 3) := by decide +kernel
theorem dX4_bestOf_32 : decode cX4_bestOf 32 = .ok (.astore 6, 2) := by decide +kernel
theorem dX4_bestOf_34 : decode cX4_bestOf 34 = .ok (.aload 6, 2) := by decide +kernel
theorem dX4_bestOf_36 : decode cX4_bestOf 36 = .ok (.aload 6, 2) := by decide +kernel
theorem dX4_bestOf_38 : decode cX4_bestOf 38 = .ok (.getfield 67, 3) := by decide +kernel
theorem dX4_bestOf_41 : decode cX4_bestOf 41 = .ok (.aload_n 2, 1) := by decide +kernel
theorem dX4_bestOf_42 : decode cX4_bestOf 42 = .ok (.getfield 70, 3) := by decide +kernel
theorem dX4_bestOf_45 : decode cX4_bestOf 45 = .ok (.invokevirtual 75, 3) := by decide +kernel
theorem dX4_bestOf_48 : decode cX4_bestOf 48 = .ok (.istore 7, 2) := by decide +kernel
theorem dX4_bestOf_50 : decode cX4_bestOf 50 = .ok (.aload 6, 2) := by decide +kernel
theorem dX4_bestOf_52 : decode cX4_bestOf 52 = .ok (.getfield 79, 3) := by decide +kernel
theorem dX4_bestOf_55 : decode cX4_bestOf 55 = .ok (.aload_n 1, 1) := by decide +kernel
theorem dX4_bestOf_56 : decode cX4_bestOf 56 = .ok (.if_acmp .ne 29, 3) := by decide +kernel
theorem dX4_bestOf_59 : decode cX4_bestOf 59 = .ok (.aload 6, 2) := by decide +kernel
theorem dX4_bestOf_61 : decode cX4_bestOf 61 = .ok (.getfield 83, 3) := by decide +kernel
theorem dX4_bestOf_64 : decode cX4_bestOf 64 = .ok (.aload_n 2, 1) := by decide +kernel
theorem dX4_bestOf_65 : decode cX4_bestOf 65 = .ok (.getfield 84, 3) := by decide +kernel
theorem dX4_bestOf_68 : decode cX4_bestOf 68 = .ok (.if_icmp .ge 17, 3) := by decide +kernel
theorem dX4_bestOf_71 : decode cX4_bestOf 71 = .ok (.iload 7, 2) := by decide +kernel
theorem dX4_bestOf_73 : decode cX4_bestOf 73 = .ok (.iload 4, 2) := by decide +kernel
theorem dX4_bestOf_75 : decode cX4_bestOf 75 = .ok (.if_icmp .le 10, 3) := by decide +kernel
theorem dX4_bestOf_78 : decode cX4_bestOf 78 = .ok (.aload 6, 2) := by decide +kernel
theorem dX4_bestOf_80 : decode cX4_bestOf 80 = .ok (.astore_n 3, 1) := by decide +kernel
theorem dX4_bestOf_81 : decode cX4_bestOf 81 = .ok (.iload 7, 2) := by decide +kernel
theorem dX4_bestOf_83 : decode cX4_bestOf 83 = .ok (.istore 4, 2) := by decide +kernel
theorem dX4_bestOf_85 : decode cX4_bestOf 85 = .ok (.iinc 5 1, 3) := by decide +kernel
theorem dX4_bestOf_88 : decode cX4_bestOf 88 = .ok (.goto (-80), 3) := by decide +kernel
theorem dX4_bestOf_91 : decode cX4_bestOf 91 = .ok (.aload_n 3, 1) := by decide +kernel
theorem dX4_bestOf_92 : decode cX4_bestOf 92 = .ok (.areturn, 1) := by decide +kernel
theorem dX5_init_0 : decode cX5_init 0 = .ok (.aload_n 0, 1) := by decide +kernel
theorem dX5_init_1 : decode cX5_init 1 = .ok (.invokespecial 3, 3) := by decide +kernel
theorem dX5_init_4 : decode cX5_init 4 = .ok (.aload_n 0, 1) := by decide +kernel
theorem dX5_init_5 : decode cX5_init 5 = .ok (.new 9, 3) := by decide +kernel
theorem dX5_init_8 : decode cX5_init 8 = .ok (.dup, 1) := by decide +kernel
theorem dX5_init_9 : decode cX5_init 9 = .ok (.invokespecial 11, 3) := by decide +kernel
theorem dX5_init_12 : decode cX5_init 12 = .ok (.putfield 12, 3) := by decide +kernel
theorem dX5_init_15 : decode cX5_init 15 = .ok (.aload_n 0, 1) := by decide +kernel
theorem dX5_init_16 : decode cX5_init 16 = .ok (.iload_n 1, 1) := by decide +kernel
theorem dX5_init_17 : decode cX5_init 17 = .ok (.putfield 18, 3) := by decide +kernel
theorem dX5_init_20 : decode cX5_init 20 = .ok (.aload_n 0, 1) := by decide +kernel
theorem dX5_init_21 : decode cX5_init 21 = .ok (.iload_n 2, 1) := by decide +kernel
theorem dX5_init_22 : decode cX5_init 22 = .ok (.putfield 22, 3) := by decide +kernel
theorem dX5_init_25 : decode cX5_init 25 = .ok (.return_, 1) := by decide +kernel
theorem dX5_masteryAt_0 : decode cX5_masteryAt 0 = .ok (.iconst 0, 1) := by decide +kernel
theorem dX5_masteryAt_1 : decode cX5_masteryAt 1 = .ok (.istore_n 3, 1) := by decide +kernel
theorem dX5_masteryAt_2 : decode cX5_masteryAt 2 = .ok (.iconst 0, 1) := by decide +kernel
theorem dX5_masteryAt_3 : decode cX5_masteryAt 3 = .ok (.istore 4, 2) := by decide +kernel
theorem dX5_masteryAt_5 : decode cX5_masteryAt 5 = .ok (.iconst 0, 1) := by decide +kernel
theorem dX5_masteryAt_6 : decode cX5_masteryAt 6 = .ok (.istore 5, 2) := by decide +kernel
theorem dX5_masteryAt_8 : decode cX5_masteryAt 8 = .ok (.iload 5, 2) := by decide +kernel
theorem dX5_masteryAt_10 : decode cX5_masteryAt 10 = .ok (.aload_n 0, 1) := by decide +kernel
theorem dX5_masteryAt_11 : decode cX5_masteryAt 11 = .ok (.getfield 12, 3) := by decide +kernel
theorem dX5_masteryAt_14 : decode cX5_masteryAt 14 = .ok (.invokevirtual 25, 3) := by decide +kernel
theorem dX5_masteryAt_17 : decode cX5_masteryAt 17 = .ok (.if_icmp .ge 73, 3) := by decide +kernel
theorem dX5_masteryAt_20 : decode cX5_masteryAt 20 = .ok (.aload_n 0, 1) := by decide +kernel
theorem dX5_masteryAt_21 : decode cX5_masteryAt 21 = .ok (.getfield 12, 3) := by decide +kernel
theorem dX5_masteryAt_24 : decode cX5_masteryAt 24 = .ok (.iload 5, 2) := by decide +kernel
theorem dX5_masteryAt_26 : decode cX5_masteryAt 26 = .ok (.invokevirtual 29, 3) := by decide +kernel
theorem dX5_masteryAt_29 : decode cX5_masteryAt 29 = .ok (.checkcast 33, 3) := by decide +kernel
theorem dX5_masteryAt_32 : decode cX5_masteryAt 32 = .ok (.astore 6, 2) := by decide +kernel
theorem dX5_masteryAt_34 : decode cX5_masteryAt 34 = .ok (.aload 6, 2) := by decide +kernel
theorem dX5_masteryAt_36 : decode cX5_masteryAt 36 = .ok (.getfield 35, 3) := by decide +kernel
theorem dX5_masteryAt_39 : decode cX5_masteryAt 39 = .ok (.aload_n 2, 1) := by decide +kernel
theorem dX5_masteryAt_40 : decode cX5_masteryAt 40 = .ok (.getfield 38, 3) := by decide +kernel
theorem dX5_masteryAt_43 : decode cX5_masteryAt 43 = .ok (.if_icmp .ge 41, 3) := by decide +kernel
theorem dX5_masteryAt_46 : decode cX5_masteryAt 46 = .ok (.aload 6, 2) := by decide +kernel
theorem dX5_masteryAt_48 : decode cX5_masteryAt 48 = .ok (.aload_n 1, 1) := by decide +kernel
theorem dX5_masteryAt_49 : decode cX5_masteryAt 49 = .ok (.aload_n 2, 1) := by decide +kernel
theorem dX5_masteryAt_50 : decode cX5_masteryAt 50 = .ok (.invokevirtual 42, 3) := by decide +kernel
theorem dX5_masteryAt_53 : decode cX5_masteryAt 53 = .ok (.astore 7, 2) := by decide +kernel
theorem dX5_masteryAt_55 : decode cX5_masteryAt 55 = .ok (.iload_n 3, 1) := by decide +kernel
theorem dX5_masteryAt_56 : decode cX5_masteryAt 56 = .ok (.aload 7, 2) := by decide +kernel
theorem dX5_masteryAt_58 : decode cX5_masteryAt 58 = .ok (.ifnonnull 7, 3) := by decide +kernel
theorem dX5_masteryAt_61 : decode cX5_masteryAt 61 = .ok (.iconst 0, 1) := by decide +kernel
theorem dX5_masteryAt_62 : decode cX5_masteryAt 62 = .ok (.goto 17, 3) := by decide +kernel
theorem dX5_masteryAt_65 : decode cX5_masteryAt 65 = .ok (.aload 7, 2) := by decide +kernel
theorem dX5_masteryAt_67 : decode cX5_masteryAt 67 = .ok (.aload 7, 2) := by decide +kernel
theorem dX5_masteryAt_69 : decode cX5_masteryAt 69 = .ok (.getfield 46, 3) := by decide +kernel
theorem dX5_masteryAt_72 : decode cX5_masteryAt 72 = .ok (.aload_n 2, 1) := by decide +kernel
theorem dX5_masteryAt_73 : decode cX5_masteryAt 73 = .ok (.getfield 51, 3) := by decide +kernel
theorem dX5_masteryAt_76 : decode cX5_masteryAt 76 = .ok (.invokevirtual 54, 3) := by decide +kernel
theorem dX5_masteryAt_79 : decode cX5_masteryAt 79 = .ok (.iadd, 1) := by decide +kernel
theorem dX5_masteryAt_80 : decode cX5_masteryAt 80 = .ok (.istore_n 3, 1) := by decide +kernel
theorem dX5_masteryAt_81 : decode cX5_masteryAt 81 = .ok (.iinc 4 1, 3) := by decide +kernel
theorem dX5_masteryAt_84 : decode cX5_masteryAt 84 = .ok (.iinc 5 1, 3) := by decide +kernel
theorem dX5_masteryAt_87 : decode cX5_masteryAt 87 = .ok (.goto (-79), 3) := by decide +kernel
theorem dX5_masteryAt_90 : decode cX5_masteryAt 90 = .ok (.iload 4, 2) := by decide +kernel
theorem dX5_masteryAt_92 : decode cX5_masteryAt 92 = .ok (.ifCond .ne 8, 3) := by decide +kernel
theorem dX5_masteryAt_95 : decode cX5_masteryAt 95 = .ok (.bipush 100, 2) := by decide +kernel
theorem dX5_masteryAt_97 : decode cX5_masteryAt 97 = .ok (.goto 7, 3) := by decide +kernel
theorem dX5_masteryAt_100 : decode cX5_masteryAt 100 = .ok (.iload_n 3, 1) := by decide +kernel
theorem dX5_masteryAt_101 : decode cX5_masteryAt 101 = .ok (.iload 4, 2) := by decide +kernel
theorem dX5_masteryAt_103 : decode cX5_masteryAt 103 = .ok (.idiv, 1) := by decide +kernel
theorem dX5_masteryAt_104 : decode cX5_masteryAt 104 = .ok (.ireturn, 1) := by decide +kernel
theorem dX6_init_0 : decode cX6_init 0 = .ok (.aload_n 0, 1) := by decide +kernel
theorem dX6_init_1 : decode cX6_init 1 = .ok (.invokespecial 1, 3) := by decide +kernel
theorem dX6_init_4 : decode cX6_init 4 = .ok (.aload_n 0, 1) := by decide +kernel
theorem dX6_init_5 : decode cX6_init 5 = .ok (.iload_n 1, 1) := by decide +kernel
theorem dX6_init_6 : decode cX6_init 6 = .ok (.putfield 7, 3) := by decide +kernel
theorem dX6_init_9 : decode cX6_init 9 = .ok (.aload_n 0, 1) := by decide +kernel
theorem dX6_init_10 : decode cX6_init 10 = .ok (.iload_n 2, 1) := by decide +kernel
theorem dX6_init_11 : decode cX6_init 11 = .ok (.putfield 13, 3) := by decide +kernel
theorem dX6_init_14 : decode cX6_init 14 = .ok (.aload_n 0, 1) := by decide +kernel
theorem dX6_init_15 : decode cX6_init 15 = .ok (.iload_n 3, 1) := by decide +kernel
theorem dX6_init_16 : decode cX6_init 16 = .ok (.putfield 16, 3) := by decide +kernel
theorem dX6_init_19 : decode cX6_init 19 = .ok (.return_, 1) := by decide +kernel
theorem dX7_init_0 : decode cX7_init 0 = .ok (.aload_n 0, 1) := by decide +kernel
theorem dX7_init_1 : decode cX7_init 1 = .ok (.invokespecial 1, 3) := by decide +kernel
theorem dX7_init_4 : decode cX7_init 4 = .ok (.aload_n 0, 1) := by decide +kernel
theorem dX7_init_5 : decode cX7_init 5 = .ok (.iload_n 1, 1) := by decide +kernel
theorem dX7_init_6 : decode cX7_init 6 = .ok (.putfield 7, 3) := by decide +kernel
theorem dX7_init_9 : decode cX7_init 9 = .ok (.aload_n 0, 1) := by decide +kernel
theorem dX7_init_10 : decode cX7_init 10 = .ok (.iload_n 2, 1) := by decide +kernel
theorem dX7_init_11 : decode cX7_init 11 = .ok (.putfield 13, 3) := by decide +kernel
theorem dX7_init_14 : decode cX7_init 14 = .ok (.return_, 1) := by decide +kernel
theorem dX7_valueFor_0 : decode cX7_valueFor 0 = .ok (.aload_n 0, 1) := by decide +kernel
theorem dX7_valueFor_1 : decode cX7_valueFor 1 = .ok (.getfield 7, 3) := by decide +kernel
theorem dX7_valueFor_4 : decode cX7_valueFor 4 = .ok (.iload_n 1, 1) := by decide +kernel
theorem dX7_valueFor_5 : decode cX7_valueFor 5 = .ok (.imul, 1) := by decide +kernel
theorem dX7_valueFor_6 : decode cX7_valueFor 6 = .ok (.aload_n 0, 1) := by decide +kernel
theorem dX7_valueFor_7 : decode cX7_valueFor 7 = .ok (.getfield 13, 3) := by decide +kernel
theorem dX7_valueFor_10 : decode cX7_valueFor 10 = .ok (.iadd, 1) := by decide +kernel
theorem dX7_valueFor_11 : decode cX7_valueFor 11 = .ok (.ireturn, 1) := by decide +kernel
theorem dX8_init_0 : decode cX8_init 0 = .ok (.aload_n 0, 1) := by decide +kernel
theorem dX8_init_1 : decode cX8_init 1 = .ok (.invokespecial 1, 3) := by decide +kernel
theorem dX8_init_4 : decode cX8_init 4 = .ok (.aload_n 0, 1) := by decide +kernel
theorem dX8_init_5 : decode cX8_init 5 = .ok (.iload_n 1, 1) := by decide +kernel
theorem dX8_init_6 : decode cX8_init 6 = .ok (.putfield 7, 3) := by decide +kernel
theorem dX8_init_9 : decode cX8_init 9 = .ok (.aload_n 0, 1) := by decide +kernel
theorem dX8_init_10 : decode cX8_init 10 = .ok (.aload_n 2, 1) := by decide +kernel
theorem dX8_init_11 : decode cX8_init 11 = .ok (.putfield 13, 3) := by decide +kernel
theorem dX8_init_14 : decode cX8_init 14 = .ok (.return_, 1) := by decide +kernel
theorem dX9_init_0 : decode cX9_init 0 = .ok (.aload_n 0, 1) := by decide +kernel
theorem dX9_init_1 : decode cX9_init 1 = .ok (.invokespecial 1, 3) := by decide +kernel
theorem dX9_init_4 : decode cX9_init 4 = .ok (.aload_n 0, 1) := by decide +kernel
theorem dX9_init_5 : decode cX9_init 5 = .ok (.new 7, 3) := by decide +kernel
theorem dX9_init_8 : decode cX9_init 8 = .ok (.dup, 1) := by decide +kernel
theorem dX9_init_9 : decode cX9_init 9 = .ok (.invokespecial 9, 3) := by decide +kernel
theorem dX9_init_12 : decode cX9_init 12 = .ok (.putfield 10, 3) := by decide +kernel
theorem dX9_init_15 : decode cX9_init 15 = .ok (.aload_n 0, 1) := by decide +kernel
theorem dX9_init_16 : decode cX9_init 16 = .ok (.new 7, 3) := by decide +kernel
theorem dX9_init_19 : decode cX9_init 19 = .ok (.dup, 1) := by decide +kernel
theorem dX9_init_20 : decode cX9_init 20 = .ok (.invokespecial 9, 3) := by decide +kernel
theorem dX9_init_23 : decode cX9_init 23 = .ok (.putfield 16, 3) := by decide +kernel
theorem dX9_init_26 : decode cX9_init 26 = .ok (.aload_n 0, 1) := by decide +kernel
theorem dX9_init_27 : decode cX9_init 27 = .ok (.new 7, 3) := by decide +kernel
theorem dX9_init_30 : decode cX9_init 30 = .ok (.dup, 1) := by decide +kernel
theorem dX9_init_31 : decode cX9_init 31 = .ok (.invokespecial 9, 3) := by decide +kernel
theorem dX9_init_34 : decode cX9_init 34 = .ok (.putfield 19, 3) := by decide +kernel
theorem dX9_init_37 : decode cX9_init 37 = .ok (.aload_n 0, 1) := by decide +kernel
theorem dX9_init_38 : decode cX9_init 38 = .ok (.new 7, 3) := by decide +kernel
theorem dX9_init_41 : decode cX9_init 41 = .ok (.dup, 1) := by decide +kernel
theorem dX9_init_42 : decode cX9_init 42 = .ok (.invokespecial 9, 3) := by decide +kernel
theorem dX9_init_45 : decode cX9_init 45 = .ok (.putfield 22, 3) := by decide +kernel
theorem dX9_init_48 : decode cX9_init 48 = .ok (.aload_n 0, 1) := by decide +kernel
theorem dX9_init_49 : decode cX9_init 49 = .ok (.new 7, 3) := by decide +kernel
theorem dX9_init_52 : decode cX9_init 52 = .ok (.dup, 1) := by decide +kernel
theorem dX9_init_53 : decode cX9_init 53 = .ok (.invokespecial 9, 3) := by decide +kernel
theorem dX9_init_56 : decode cX9_init 56 = .ok (.putfield 25, 3) := by decide +kernel
theorem dX9_init_59 : decode cX9_init 59 = .ok (.aload_n 0, 1) := by decide +kernel
theorem dX9_init_60 : decode cX9_init 60 = .ok (.new 7, 3) := by decide +kernel
theorem dX9_init_63 : decode cX9_init 63 = .ok (.dup, 1) := by decide +kernel
theorem dX9_init_64 : decode cX9_init 64 = .ok (.invokespecial 9, 3) := by decide +kernel
theorem dX9_init_67 : decode cX9_init 67 = .ok (.putfield 28, 3) := by decide +kernel
theorem dX9_init_70 : decode cX9_init 70 = .ok (.aload_n 0, 1) := by decide +kernel
theorem dX9_init_71 : decode cX9_init 71 = .ok (.new 7, 3) := by decide +kernel
theorem dX9_init_74 : decode cX9_init 74 = .ok (.dup, 1) := by decide +kernel
theorem dX9_init_75 : decode cX9_init 75 = .ok (.invokespecial 9, 3) := by decide +kernel
theorem dX9_init_78 : decode cX9_init 78 = .ok (.putfield 31, 3) := by decide +kernel
theorem dX9_init_81 : decode cX9_init 81 = .ok (.aload_n 0, 1) := by decide +kernel
theorem dX9_init_82 : decode cX9_init 82 = .ok (.new 7, 3) := by decide +kernel
theorem dX9_init_85 : decode cX9_init 85 = .ok (.dup, 1) := by decide +kernel
theorem dX9_init_86 : decode cX9_init 86 = .ok (.invokespecial 9, 3) := by decide +kernel
theorem dX9_init_89 : decode cX9_init 89 = .ok (.putfield 34, 3) := by decide +kernel
theorem dX9_init_92 : decode cX9_init 92 = .ok (.aload_n 0, 1) := by decide +kernel
theorem dX9_init_93 : decode cX9_init 93 = .ok (.new 7, 3) := by decide +kernel
theorem dX9_init_96 : decode cX9_init 96 = .ok (.dup, 1) := by decide +kernel
theorem dX9_init_97 : decode cX9_init 97 = .ok (.invokespecial 9, 3) := by decide +kernel
theorem dX9_init_100 : decode cX9_init 100 = .ok (.putfield 37, 3) := by decide +kernel
theorem dX9_init_103 : decode cX9_init 103 = .ok (.aload_n 0, 1) := by decide +kernel
theorem dX9_init_104 : decode cX9_init 104 = .ok (.new 40, 3) := by decide +kernel
theorem dX9_init_107 : decode cX9_init 107 = .ok (.dup, 1) := by decide +kernel
theorem dX9_init_108 : decode cX9_init 108 = .ok (.invokespecial 42, 3) := by decide +kernel
theorem dX9_init_111 : decode cX9_init 111 = .ok (.putfield 43, 3) := by decide +kernel
theorem dX9_init_114 : decode cX9_init 114 = .ok (.aload_n 0, 1) := by decide +kernel
theorem dX9_init_115 : decode cX9_init 115 = .ok (.iconst 0, 1) := by decide +kernel
theorem dX9_init_116 : decode cX9_init 116 = .ok (.putfield 47, 3) := by decide +kernel
theorem dX9_init_119 : decode cX9_init 119 = .ok (.return_, 1) := by decide +kernel
theorem dX9_addCohort_0 : decode cX9_addCohort 0 = .ok (.iload_n 1, 1) := by decide +kernel
theorem dX9_addCohort_1 : decode cX9_addCohort 1 = .ok (.ifCond .lt 15, 3) := by decide +kernel
theorem dX9_addCohort_4 : decode cX9_addCohort 4 = .ok (.iload_n 2, 1) := by decide +kernel
theorem dX9_addCohort_5 : decode cX9_addCohort 5 = .ok (.iload_n 1, 1) := by decide +kernel
theorem dX9_addCohort_6 : decode cX9_addCohort 6 = .ok (.if_icmp .lt 10, 3) := by decide +kernel
theorem dX9_addCohort_9 : decode cX9_addCohort 9 = .ok (.iload_n 2, 1) := by decide +kernel
theorem dX9_addCohort_10 : decode cX9_addCohort 10 = .ok (.sipush 999, 3) := by decide +kernel
theorem dX9_addCohort_13 : decode cX9_addCohort 13 = .ok (.if_icmp .le 13, 3) := by decide +kernel
theorem dX9_addCohort_16 : decode cX9_addCohort 16 = .ok (.new 51, 3) := by decide +kernel
theorem dX9_addCohort_19 : decode cX9_addCohort 19 = .ok (.dup, 1) := by decide +kernel
theorem dX9_addCohort_20 : decode cX9_addCohort 20 = .ok (.ldc 53, 2) := by decide +kernel
theorem dX9_addCohort_22 : decode cX9_addCohort 22 = .ok (.invokespecial 55, 3) := by decide +kernel
theorem dX9_addCohort_25 : decode cX9_addCohort 25 = .ok (.athrow, 1) := by decide +kernel
theorem dX9_addCohort_26 : decode cX9_addCohort 26 = .ok (.aload_n 0, 1) := by decide +kernel
theorem dX9_addCohort_27 : decode cX9_addCohort 27 = .ok (.getfield 10, 3) := by decide +kernel
theorem dX9_addCohort_30 : decode cX9_addCohort 30 = .ok (.invokevirtual 58, 3) := by decide +kernel
theorem dX9_addCohort_33 : decode cX9_addCohort 33 = .ok (.iconst 4, 1) := by decide +kernel
theorem dX9_addCohort_34 : decode cX9_addCohort 34 = .ok (.if_icmp .lt 13, 3) := by decide +kernel
theorem dX9_addCohort_37 : decode cX9_addCohort 37 = .ok (.new 62, 3) := by decide +kernel
theorem dX9_addCohort_40 : decode cX9_addCohort 40 = .ok (.dup, 1) := by decide +kernel
theorem dX9_addCohort_41 : decode cX9_addCohort 41 = .ok (.ldc 64, 2) := by decide +kernel
theorem dX9_addCohort_43 : decode cX9_addCohort 43 = .ok (.invokespecial 66, 3) := by decide +kernel
theorem dX9_addCohort_46 : decode cX9_addCohort 46 = .ok (.athrow, 1) := by decide +kernel
theorem dX9_addCohort_47 : decode cX9_addCohort 47 = .ok (.aload_n 0, 1) := by decide +kernel
theorem dX9_addCohort_48 : decode cX9_addCohort 48 = .ok (.getfield 10, 3) := by decide +kernel
theorem dX9_addCohort_51 : decode cX9_addCohort 51 = .ok (.new 67, 3) := by decide +kernel
theorem dX9_addCohort_54 : decode cX9_addCohort 54 = .ok (.dup, 1) := by decide +kernel
theorem dX9_addCohort_55 : decode cX9_addCohort 55 = .ok (.iload_n 1, 1) := by decide +kernel
theorem dX9_addCohort_56 : decode cX9_addCohort 56 = .ok (.iload_n 2, 1) := by decide +kernel
theorem dX9_addCohort_57 : decode cX9_addCohort 57 = .ok (.invokespecial 69, 3) := by decide +kernel
theorem dX9_addCohort_60 : decode cX9_addCohort 60 = .ok (.invokevirtual 72, 3) := by decide +kernel
theorem dX9_addCohort_63 : decode cX9_addCohort 63 = .ok (.pop, 1) := by decide +kernel
theorem dX9_addCohort_64 : decode cX9_addCohort 64 = .ok (.aload_n 0, 1) := by decide +kernel
theorem dX9_addCohort_65 : decode cX9_addCohort 65 = .ok (.getfield 10, 3) := by decide +kernel
theorem dX9_addCohort_68 : decode cX9_addCohort 68 = .ok (.invokevirtual 58, 3) := by decide +kernel
theorem dX9_addCohort_71 : decode cX9_addCohort 71 = .ok (.iconst 1, 1) := by decide +kernel
theorem dX9_addCohort_72 : decode cX9_addCohort 72 = .ok (.isub, 1) := by decide +kernel
theorem dX9_addCohort_73 : decode cX9_addCohort 73 = .ok (.ireturn, 1) := by decide +kernel
theorem dX9_addStudent_0 : decode cX9_addStudent 0 = .ok (.iload_n 1, 1) := by decide +kernel
theorem dX9_addStudent_1 : decode cX9_addStudent 1 = .ok (.ifCond .lt 14, 3) := by decide +kernel
theorem dX9_addStudent_4 : decode cX9_addStudent 4 = .ok (.iload_n 1, 1) := by decide +kernel
theorem dX9_addStudent_5 : decode cX9_addStudent 5 = .ok (.aload_n 0, 1) := by decide +kernel
theorem dX9_addStudent_6 : decode cX9_addStudent 6 = .ok (.getfield 10, 3) := by decide +kernel
theorem dX9_addStudent_9 : decode cX9_addStudent 9 = .ok (.invokevirtual 58, 3) := by decide +kernel
theorem dX9_addStudent_12 : decode cX9_addStudent 12 = .ok (.if_icmp .lt 13, 3) := by decide +kernel
theorem dX9_addStudent_15 : decode cX9_addStudent 15 = .ok (.new 76, 3) := by decide +kernel
theorem dX9_addStudent_18 : decode cX9_addStudent 18 = .ok (.dup, 1) := by decide +kernel
theorem dX9_addStudent_19 : decode cX9_addStudent 19 = .ok (.ldc 78, 2) := by decide +kernel
theorem dX9_addStudent_21 : decode cX9_addStudent 21 = .ok (.invokespecial 80, 3) := by decide +kernel
theorem dX9_addStudent_24 : decode cX9_addStudent 24 = .ok (.athrow, 1) := by decide +kernel
theorem dX9_addStudent_25 : decode cX9_addStudent 25 = .ok (.aload_n 0, 1) := by decide +kernel
theorem dX9_addStudent_26 : decode cX9_addStudent 26 = .ok (.getfield 16, 3) := by decide +kernel
theorem dX9_addStudent_29 : decode cX9_addStudent 29 = .ok (.invokevirtual 58, 3) := by decide +kernel
theorem dX9_addStudent_32 : decode cX9_addStudent 32 = .ok (.bipush 8, 2) := by decide +kernel
theorem dX9_addStudent_34 : decode cX9_addStudent 34 = .ok (.if_icmp .lt 13, 3) := by decide +kernel
theorem dX9_addStudent_37 : decode cX9_addStudent 37 = .ok (.new 62, 3) := by decide +kernel
theorem dX9_addStudent_40 : decode cX9_addStudent 40 = .ok (.dup, 1) := by decide +kernel
theorem dX9_addStudent_41 : decode cX9_addStudent 41 = .ok (.ldc 81, 2) := by decide +kernel
theorem dX9_addStudent_43 : decode cX9_addStudent 43 = .ok (.invokespecial 66, 3) := by decide +kernel
theorem dX9_addStudent_46 : decode cX9_addStudent 46 = .ok (.athrow, 1) := by decide +kernel
theorem dX9_addStudent_47 : decode cX9_addStudent 47 = .ok (.aload_n 0, 1) := by decide +kernel
theorem dX9_addStudent_48 : decode cX9_addStudent 48 = .ok (.getfield 16, 3) := by decide +kernel
theorem dX9_addStudent_51 : decode cX9_addStudent 51 = .ok (.new 83, 3) := by decide +kernel
theorem dX9_addStudent_54 : decode cX9_addStudent 54 = .ok (.dup, 1) := by decide +kernel
theorem dX9_addStudent_55 : decode cX9_addStudent 55 = .ok (.aload_n 0, 1) := by decide +kernel
theorem dX9_addStudent_56 : decode cX9_addStudent 56 = .ok (.getfield 16, 3) := by decide +kernel
theorem dX9_addStudent_59 : decode cX9_addStudent 59 = .ok (.invokevirtual 58, 3) := by decide +kernel
theorem dX9_addStudent_62 : decode cX9_addStudent 62 = .ok (.aload_n 0, 1) := by decide +kernel
theorem dX9_addStudent_63 : decode cX9_addStudent 63 = .ok (.getfield 10, 3) := by decide +kernel
theorem dX9_addStudent_66 : decode cX9_addStudent 66 = .ok (.iload_n 1, 1) := by decide +kernel
theorem dX9_addStudent_67 : decode cX9_addStudent 67 = .ok (.invokevirtual 85, 3) := by decide +kernel
theorem dX9_addStudent_70 : decode cX9_addStudent 70 = .ok (.checkcast 67, 3) := by decide +kernel
theorem dX9_addStudent_73 : decode cX9_addStudent 73 = .ok (.invokespecial 89, 3) := by decide +kernel
theorem dX9_addStudent_76 : decode cX9_addStudent 76 = .ok (.invokevirtual 72, 3) := by decide +kernel
theorem dX9_addStudent_79 : decode cX9_addStudent 79 = .ok (.pop, 1) := by decide +kernel
theorem dX9_addStudent_80 : decode cX9_addStudent 80 = .ok (.aload_n 0, 1) := by decide +kernel
theorem dX9_addStudent_81 : decode cX9_addStudent 81 = .ok (.getfield 16, 3) := by decide +kernel
theorem dX9_addStudent_84 : decode cX9_addStudent 84 = .ok (.invokevirtual 58, 3) := by decide +kernel
theorem dX9_addStudent_87 : decode cX9_addStudent 87 = .ok (.iconst 1, 1) := by decide +kernel
theorem dX9_addStudent_88 : decode cX9_addStudent 88 = .ok (.isub, 1) := by decide +kernel
theorem dX9_addStudent_89 : decode cX9_addStudent 89 = .ok (.ireturn, 1) := by decide +kernel
theorem dX9_addLesson_0 : decode cX9_addLesson 0 = .ok (.aload_n 0, 1) := by decide +kernel
theorem dX9_addLesson_1 : decode cX9_addLesson 1 = .ok (.iload_n 1, 1) := by decide +kernel
theorem dX9_addLesson_2 : decode cX9_addLesson 2 = .ok (.invokevirtual 92, 3) := by decide +kernel
theorem dX9_addLesson_5 : decode cX9_addLesson 5 = .ok (.ifCond .ne 13, 3) := by decide +kernel
theorem dX9_addLesson_8 : decode cX9_addLesson 8 = .ok (.new 51, 3) := by decide +kernel
theorem dX9_addLesson_11 : decode cX9_addLesson 11 = .ok (.dup, 1) := by decide +kernel
theorem dX9_addLesson_12 : decode cX9_addLesson 12 = .ok (.ldc 96, 2) := by decide +kernel
theorem dX9_addLesson_14 : decode cX9_addLesson 14 = .ok (.invokespecial 55, 3) := by decide +kernel
theorem dX9_addLesson_17 : decode cX9_addLesson 17 = .ok (.athrow, 1) := by decide +kernel
theorem dX9_addLesson_18 : decode cX9_addLesson 18 = .ok (.iload_n 2, 1) := by decide +kernel
theorem dX9_addLesson_19 : decode cX9_addLesson 19 = .ok (.iconst 0, 1) := by decide +kernel
theorem dX9_addLesson_20 : decode cX9_addLesson 20 = .ok (.bipush 9, 2) := by decide +kernel
theorem dX9_addLesson_22 : decode cX9_addLesson 22 = .ok (.invokestatic 98, 3) := by decide +kernel
theorem dX9_addLesson_25 : decode cX9_addLesson 25 = .ok (.ifCond .ne 13, 3) := by decide +kernel
theorem dX9_addLesson_28 : decode cX9_addLesson 28 = .ok (.new 51, 3) := by decide +kernel
theorem dX9_addLesson_31 : decode cX9_addLesson 31 = .ok (.dup, 1) := by decide +kernel
theorem dX9_addLesson_32 : decode cX9_addLesson 32 = .ok (.ldc 102, 2) := by decide +kernel
theorem dX9_addLesson_34 : decode cX9_addLesson 34 = .ok (.invokespecial 55, 3) := by decide +kernel
theorem dX9_addLesson_37 : decode cX9_addLesson 37 = .ok (.athrow, 1) := by decide +kernel
theorem dX9_addLesson_38 : decode cX9_addLesson 38 = .ok (.aload_n 0, 1) := by decide +kernel
theorem dX9_addLesson_39 : decode cX9_addLesson 39 = .ok (.getfield 19, 3) := by decide +kernel
theorem dX9_addLesson_42 : decode cX9_addLesson 42 = .ok (.invokevirtual 58, 3) := by decide +kernel
theorem dX9_addLesson_45 : decode cX9_addLesson 45 = .ok (.bipush 8, 2) := by decide +kernel
theorem dX9_addLesson_47 : decode cX9_addLesson 47 = .ok (.if_icmp .lt 13, 3) := by decide +kernel
theorem dX9_addLesson_50 : decode cX9_addLesson 50 = .ok (.new 62, 3) := by decide +kernel
theorem dX9_addLesson_53 : decode cX9_addLesson 53 = .ok (.dup, 1) := by decide +kernel
theorem dX9_addLesson_54 : decode cX9_addLesson 54 = .ok (.ldc 104, 2) := by decide +kernel
theorem dX9_addLesson_56 : decode cX9_addLesson 56 = .ok (.invokespecial 66, 3) := by decide +kernel
theorem dX9_addLesson_59 : decode cX9_addLesson 59 = .ok (.athrow, 1) := by decide +kernel
theorem dX9_addLesson_60 : decode cX9_addLesson 60 = .ok (.aload_n 0, 1) := by decide +kernel
theorem dX9_addLesson_61 : decode cX9_addLesson 61 = .ok (.getfield 19, 3) := by decide +kernel
theorem dX9_addLesson_64 : decode cX9_addLesson 64 = .ok (.new 106, 3) := by decide +kernel
theorem dX9_addLesson_67 : decode cX9_addLesson 67 = .ok (.dup, 1) := by decide +kernel
theorem dX9_addLesson_68 : decode cX9_addLesson 68 = .ok (.iload_n 1, 1) := by decide +kernel
theorem dX9_addLesson_69 : decode cX9_addLesson 69 = .ok (.iload_n 2, 1) := by decide +kernel
theorem dX9_addLesson_70 : decode cX9_addLesson 70 = .ok (.invokespecial 108, 3) := by decide +kernel
theorem dX9_addLesson_73 : decode cX9_addLesson 73 = .ok (.invokevirtual 72, 3) := by decide +kernel
theorem dX9_addLesson_76 : decode cX9_addLesson 76 = .ok (.pop, 1) := by decide +kernel
theorem dX9_addLesson_77 : decode cX9_addLesson 77 = .ok (.aload_n 0, 1) := by decide +kernel
theorem dX9_addLesson_78 : decode cX9_addLesson 78 = .ok (.getfield 19, 3) := by decide +kernel
theorem dX9_addLesson_81 : decode cX9_addLesson 81 = .ok (.invokevirtual 58, 3) := by decide +kernel
theorem dX9_addLesson_84 : decode cX9_addLesson 84 = .ok (.iconst 1, 1) := by decide +kernel
theorem dX9_addLesson_85 : decode cX9_addLesson 85 = .ok (.isub, 1) := by decide +kernel
theorem dX9_addLesson_86 : decode cX9_addLesson 86 = .ok (.ireturn, 1) := by decide +kernel
theorem dX9_addExercise_0 : decode cX9_addExercise 0 = .ok (.aload_n 0, 1) := by decide +kernel
theorem dX9_addExercise_1 : decode cX9_addExercise 1 = .ok (.iload_n 1, 1) := by decide +kernel
theorem dX9_addExercise_2 : decode cX9_addExercise 2 = .ok (.invokevirtual 109, 3) := by decide +kernel
theorem dX9_addExercise_5 : decode cX9_addExercise 5 = .ok (.astore 5, 2) := by decide +kernel
theorem dX9_addExercise_7 : decode cX9_addExercise 7 = .ok (.iload_n 2, 1) := by decide +kernel
theorem dX9_addExercise_8 : decode cX9_addExercise 8 = .ok (.iload_n 3, 1) := by decide +kernel
theorem dX9_addExercise_9 : decode cX9_addExercise 9 = .ok (.invokestatic 113, 3) := by decide +kernel
theorem dX9_addExercise_12 : decode cX9_addExercise 12 = .ok (.iload 4, 2) := by decide +kernel
theorem dX9_addExercise_14 : decode cX9_addExercise 14 = .ok (.iconst 0, 1) := by decide +kernel
theorem dX9_addExercise_15 : decode cX9_addExercise 15 = .ok (.iconst 2, 1) := by decide +kernel
theorem dX9_addExercise_16 : decode cX9_addExercise 16 = .ok (.invokestatic 98, 3) := by decide +kernel
theorem dX9_addExercise_19 : decode cX9_addExercise 19 = .ok (.ifCond .ne 13, 3) := by decide +kernel
theorem dX9_addExercise_22 : decode cX9_addExercise 22 = .ok (.new 51, 3) := by decide +kernel
theorem dX9_addExercise_25 : decode cX9_addExercise 25 = .ok (.dup, 1) := by decide +kernel
theorem dX9_addExercise_26 : decode cX9_addExercise 26 = .ok (.ldc 116, 2) := by decide +kernel
theorem dX9_addExercise_28 : decode cX9_addExercise 28 = .ok (.invokespecial 55, 3) := by decide +kernel
theorem dX9_addExercise_31 : decode cX9_addExercise 31 = .ok (.athrow, 1) := by decide +kernel
theorem dX9_addExercise_32 : decode cX9_addExercise 32 = .ok (.aload_n 0, 1) := by decide +kernel
theorem dX9_addExercise_33 : decode cX9_addExercise 33 = .ok (.getfield 22, 3) := by decide +kernel
theorem dX9_addExercise_36 : decode cX9_addExercise 36 = .ok (.invokevirtual 58, 3) := by decide +kernel
theorem dX9_addExercise_39 : decode cX9_addExercise 39 = .ok (.bipush 12, 2) := by decide +kernel
theorem dX9_addExercise_41 : decode cX9_addExercise 41 = .ok (.if_icmp .lt 13, 3) := by decide +kernel
theorem dX9_addExercise_44 : decode cX9_addExercise 44 = .ok (.new 62, 3) := by decide +kernel
theorem dX9_addExercise_47 : decode cX9_addExercise 47 = .ok (.dup, 1) := by decide +kernel
theorem dX9_addExercise_48 : decode cX9_addExercise 48 = .ok (.ldc 118, 2) := by decide +kernel
theorem dX9_addExercise_50 : decode cX9_addExercise 50 = .ok (.invokespecial 66, 3) := by decide +kernel
theorem dX9_addExercise_53 : decode cX9_addExercise 53 = .ok (.athrow, 1) := by decide +kernel
theorem dX9_addExercise_54 : decode cX9_addExercise 54 = .ok (.new 120, 3) := by decide +kernel
theorem dX9_addExercise_57 : decode cX9_addExercise 57 = .ok (.dup, 1) := by decide +kernel
theorem dX9_addExercise_58 : decode cX9_addExercise 58 = .ok (.aload_n 0, 1) := by decide +kernel
theorem dX9_addExercise_59 : decode cX9_addExercise 59 = .ok (.getfield 22, 3) := by decide +kernel
theorem dX9_addExercise_62 : decode cX9_addExercise 62 = .ok (.invokevirtual 58, 3) := by decide +kernel
theorem dX9_addExercise_65 : decode cX9_addExercise 65 = .ok (.aload 5, 2) := by decide +kernel
theorem dX9_addExercise_67 : decode cX9_addExercise 67 = .ok (.new 122, 3) := by decide +kernel
theorem dX9_addExercise_70 : decode cX9_addExercise 70 = .ok (.dup, 1) := by decide +kernel
theorem dX9_addExercise_71 : decode cX9_addExercise 71 = .ok (.iload_n 2, 1) := by decide +kernel
theorem dX9_addExercise_72 : decode cX9_addExercise 72 = .ok (.iload_n 3, 1) := by decide +kernel
theorem dX9_addExercise_73 : decode cX9_addExercise 73 = .ok (.invokespecial 124, 3) := by decide +kernel
theorem dX9_addExercise_76 : decode cX9_addExercise 76 = .ok (.iload 4, 2) := by decide +kernel
theorem dX9_addExercise_78 : decode cX9_addExercise 78 = .ok (.invokespecial 125, 3) := by decide +kernel
theorem dX9_addExercise_81 : decode cX9_addExercise 81 = .ok (.astore 6, 2) := by decide +kernel
theorem dX9_addExercise_83 : decode cX9_addExercise 83 = .ok (.aload_n 0, 1) := by decide +kernel
theorem dX9_addExercise_84 : decode cX9_addExercise 84 = .ok (.getfield 22, 3) := by decide +kernel
theorem dX9_addExercise_87 : decode cX9_addExercise 87 = .ok (.aload 6, 2) := by decide +kernel
theorem dX9_addExercise_89 : decode cX9_addExercise 89 = .ok (.invokevirtual 72, 3) := by decide +kernel
theorem dX9_addExercise_92 : decode cX9_addExercise 92 = .ok (.pop, 1) := by decide +kernel
theorem dX9_addExercise_93 : decode cX9_addExercise 93 = .ok (.aload 5, 2) := by decide +kernel
theorem dX9_addExercise_95 : decode cX9_addExercise 95 = .ok (.getfield 128, 3) := by decide +kernel
theorem dX9_addExercise_98 : decode cX9_addExercise 98 = .ok (.aload 6, 2) := by decide +kernel
theorem dX9_addExercise_100 : decode cX9_addExercise 100 = .ok (.invokevirtual 72, 3) := by decide +kernel
theorem dX9_addExercise_103 : decode cX9_addExercise 103 = .ok (.pop, 1) := by decide +kernel
theorem dX9_addExercise_104 : decode cX9_addExercise 104 = .ok (.aload 6, 2) := by decide +kernel
theorem dX9_addExercise_106 : decode cX9_addExercise 106 = .ok (.getfield 129, 3) := by decide +kernel
theorem dX9_addExercise_109 : decode cX9_addExercise 109 = .ok (.ireturn, 1) := by decide +kernel
theorem dX9_addCase_0 : decode cX9_addCase 0 = .ok (.aload_n 0, 1) := by decide +kernel
theorem dX9_addCase_1 : decode cX9_addCase 1 = .ok (.iload_n 1, 1) := by decide +kernel
theorem dX9_addCase_2 : decode cX9_addCase 2 = .ok (.invokevirtual 132, 3) := by decide +kernel
theorem dX9_addCase_5 : decode cX9_addCase 5 = .ok (.astore 4, 2) := by decide +kernel
theorem dX9_addCase_7 : decode cX9_addCase 7 = .ok (.iload_n 2, 1) := by decide +kernel
theorem dX9_addCase_8 : decode cX9_addCase 8 = .ok (.iconst 0, 1) := by decide +kernel
theorem dX9_addCase_9 : decode cX9_addCase 9 = .ok (.bipush 99, 2) := by decide +kernel
theorem dX9_addCase_11 : decode cX9_addCase 11 = .ok (.invokestatic 98, 3) := by decide +kernel
theorem dX9_addCase_14 : decode cX9_addCase 14 = .ok (.ifCond .eq 13, 3) := by decide +kernel
theorem dX9_addCase_17 : decode cX9_addCase 17 = .ok (.iload_n 3, 1) := by decide +kernel
theorem dX9_addCase_18 : decode cX9_addCase 18 = .ok (.iconst 1, 1) := by decide +kernel
theorem dX9_addCase_19 : decode cX9_addCase 19 = .ok (.bipush 9, 2) := by decide +kernel
theorem dX9_addCase_21 : decode cX9_addCase 21 = .ok (.invokestatic 98, 3) := by decide +kernel
theorem dX9_addCase_24 : decode cX9_addCase 24 = .ok (.ifCond .ne 13, 3) := by decide +kernel
theorem dX9_addCase_27 : decode cX9_addCase 27 = .ok (.new 51, 3) := by decide +kernel
theorem dX9_addCase_30 : decode cX9_addCase 30 = .ok (.dup, 1) := by decide +kernel
theorem dX9_addCase_31 : decode cX9_addCase 31 = .ok (.ldc 136, 2) := by decide +kernel
theorem dX9_addCase_33 : decode cX9_addCase 33 = .ok (.invokespecial 55, 3) := by decide +kernel
theorem dX9_addCase_36 : decode cX9_addCase 36 = .ok (.athrow, 1) := by decide +kernel
theorem dX9_addCase_37 : decode cX9_addCase 37 = .ok (.aload 4, 2) := by decide +kernel
theorem dX9_addCase_39 : decode cX9_addCase 39 = .ok (.getfield 138, 3) := by decide +kernel
theorem dX9_addCase_42 : decode cX9_addCase 42 = .ok (.bipush 6, 2) := by decide +kernel
theorem dX9_addCase_44 : decode cX9_addCase 44 = .ok (.if_icmp .ge 14, 3) := by decide +kernel
theorem dX9_addCase_47 : decode cX9_addCase 47 = .ok (.aload 4, 2) := by decide +kernel
theorem dX9_addCase_49 : decode cX9_addCase 49 = .ok (.getfield 141, 3) := by decide +kernel
theorem dX9_addCase_52 : decode cX9_addCase 52 = .ok (.invokevirtual 142, 3) := by decide +kernel
theorem dX9_addCase_55 : decode cX9_addCase 55 = .ok (.ifCond .ne 13, 3) := by decide +kernel
theorem dX9_addCase_58 : decode cX9_addCase 58 = .ok (.new 62, 3) := by decide +kernel
theorem dX9_addCase_61 : decode cX9_addCase 61 = .ok (.dup, 1) := by decide +kernel
theorem dX9_addCase_62 : decode cX9_addCase 62 = .ok (.ldc 146, 2) := by decide +kernel
theorem dX9_addCase_64 : decode cX9_addCase 64 = .ok (.invokespecial 66, 3) := by decide +kernel
theorem dX9_addCase_67 : decode cX9_addCase 67 = .ok (.athrow, 1) := by decide +kernel
theorem dX9_addCase_68 : decode cX9_addCase 68 = .ok (.aload 4, 2) := by decide +kernel
theorem dX9_addCase_70 : decode cX9_addCase 70 = .ok (.iload_n 2, 1) := by decide +kernel
theorem dX9_addCase_71 : decode cX9_addCase 71 = .ok (.iload_n 3, 1) := by decide +kernel
theorem dX9_addCase_72 : decode cX9_addCase 72 = .ok (.invokevirtual 148, 3) := by decide +kernel
theorem dX9_addCase_75 : decode cX9_addCase 75 = .ok (.aload 4, 2) := by decide +kernel
theorem dX9_addCase_77 : decode cX9_addCase 77 = .ok (.getfield 138, 3) := by decide +kernel
theorem dX9_addCase_80 : decode cX9_addCase 80 = .ok (.ireturn, 1) := by decide +kernel
theorem dX9_versionOf_0 : decode cX9_versionOf 0 = .ok (.aload_n 0, 1) := by decide +kernel
theorem dX9_versionOf_1 : decode cX9_versionOf 1 = .ok (.iload_n 1, 1) := by decide +kernel
theorem dX9_versionOf_2 : decode cX9_versionOf 2 = .ok (.invokevirtual 109, 3) := by decide +kernel
theorem dX9_versionOf_5 : decode cX9_versionOf 5 = .ok (.getfield 151, 3) := by decide +kernel
theorem dX9_versionOf_8 : decode cX9_versionOf 8 = .ok (.ireturn, 1) := by decide +kernel
theorem dX9_openLessons_0 : decode cX9_openLessons 0 = .ok (.aload_n 0, 1) := by decide +kernel
theorem dX9_openLessons_1 : decode cX9_openLessons 1 = .ok (.iload_n 1, 1) := by decide +kernel
theorem dX9_openLessons_2 : decode cX9_openLessons 2 = .ok (.invokevirtual 154, 3) := by decide +kernel
theorem dX9_openLessons_5 : decode cX9_openLessons 5 = .ok (.astore_n 2, 1) := by decide +kernel
theorem dX9_openLessons_6 : decode cX9_openLessons 6 = .ok (.aload_n 0, 1) := by decide +kernel
theorem dX9_openLessons_7 : decode cX9_openLessons 7 = .ok (.invokevirtual 158, 3) := by decide +kernel
theorem dX9_openLessons_10 : decode cX9_openLessons 10 = .ok (.astore_n 3, 1) := by decide +kernel
theorem dX9_openLessons_11 : decode cX9_openLessons 11 = .ok (.iconst 0, 1) := by decide +kernel
theorem dX9_openLessons_12 : decode cX9_openLessons 12 = .ok (.istore 4, 2) := by decide +kernel
theorem dX9_openLessons_14 : decode cX9_openLessons 14 = .ok (.iconst 0, 1) := by decide +kernel
theorem dX9_openLessons_15 : decode cX9_openLessons 15 = .ok (.istore 5, 2) := by decide +kernel
theorem dX9_openLessons_17 : decode cX9_openLessons 17 = .ok (.iload 5, 2) := by decide +kernel
theorem dX9_openLessons_19 : decode cX9_openLessons 19 = .ok (.aload_n 0, 1) := by decide +kernel
theorem dX9_openLessons_20 : decode cX9_openLessons 20 = .ok (.getfield 19, 3) := by decide +kernel
theorem dX9_openLessons_23 : decode cX9_openLessons 23 = .ok (.invokevirtual 58, 3) := by decide +kernel
theorem dX9_openLessons_26 : decode cX9_openLessons 26 = .ok (.if_icmp .ge 33, 3) := by decide +kernel
theorem dX9_openLessons_29 : decode cX9_openLessons 29 = .ok (.aload_n 0, 1) := by decide +kernel
theorem dX9_openLessons_30 : decode cX9_openLessons 30 = .ok (.aload_n 0, 1) := by decide +kernel
theorem dX9_openLessons_31 : decode cX9_openLessons 31 = .ok (.getfield 19, 3) := by decide +kernel
theorem dX9_openLessons_34 : decode cX9_openLessons 34 = .ok (.iload 5, 2) := by decide +kernel
theorem dX9_openLessons_36 : decode cX9_openLessons 36 = .ok (.invokevirtual 85, 3) := by decide +kernel
theorem dX9_openLessons_39 : decode cX9_openLessons 39 = .ok (.checkcast 106, 3) := by decide +kernel
theorem dX9_openLessons_42 : decode cX9_openLessons 42 = .ok (.aload_n 2, 1) := by decide +kernel
theorem dX9_openLessons_43 : decode cX9_openLessons 43 = .ok (.aload_n 3, 1) := by decide +kernel
theorem dX9_openLessons_44 : decode cX9_openLessons 44 = .ok (.invokevirtual 162, 3) := by decide +kernel
theorem dX9_openLessons_47 : decode cX9_openLessons 47 = .ok (.ifCond .eq 6, 3) := by decide +kernel
theorem dX9_openLessons_50 : decode cX9_openLessons 50 = .ok (.iinc 4 1, 3) := by decide +kernel
theorem dX9_openLessons_53 : decode cX9_openLessons 53 = .ok (.iinc 5 1, 3) := by decide +kernel
theorem dX9_openLessons_56 : decode cX9_openLessons 56 = .ok (.goto (-39), 3) := by decide +kernel
theorem dX9_openLessons_59 : decode cX9_openLessons 59 = .ok (.iload 4, 2) := by decide +kernel
theorem dX9_openLessons_61 : decode cX9_openLessons 61 = .ok (.ireturn, 1) := by decide +kernel
theorem dX9_reason_0 : decode cX9_reason 0 = .ok (.aload_n 0, 1) := by decide +kernel
theorem dX9_reason_1 : decode cX9_reason 1 = .ok (.aload_n 0, 1) := by decide +kernel
theorem dX9_reason_2 : decode cX9_reason 2 = .ok (.iload_n 1, 1) := by decide +kernel
theorem dX9_reason_3 : decode cX9_reason 3 = .ok (.invokevirtual 154, 3) := by decide +kernel
theorem dX9_reason_6 : decode cX9_reason 6 = .ok (.aload_n 0, 1) := by decide +kernel
theorem dX9_reason_7 : decode cX9_reason 7 = .ok (.iload_n 2, 1) := by decide +kernel
theorem dX9_reason_8 : decode cX9_reason 8 = .ok (.invokevirtual 132, 3) := by decide +kernel
theorem dX9_reason_11 : decode cX9_reason 11 = .ok (.invokevirtual 166, 3) := by decide +kernel
theorem dX9_reason_14 : decode cX9_reason 14 = .ok (.ireturn, 1) := by decide +kernel
theorem dX9_answer_0 : decode cX9_answer 0 = .ok (.aload_n 0, 1) := by decide +kernel
theorem dX9_answer_1 : decode cX9_answer 1 = .ok (.iload_n 1, 1) := by decide +kernel
theorem dX9_answer_2 : decode cX9_answer 2 = .ok (.invokevirtual 154, 3) := by decide +kernel
theorem dX9_answer_5 : decode cX9_answer 5 = .ok (.astore 5, 2) := by decide +kernel
theorem dX9_answer_7 : decode cX9_answer 7 = .ok (.aload_n 0, 1) := by decide +kernel
theorem dX9_answer_8 : decode cX9_answer 8 = .ok (.iload_n 2, 1) := by decide +kernel
theorem dX9_answer_9 : decode cX9_answer 9 = .ok (.invokevirtual 132, 3) := by decide +kernel
theorem dX9_answer_12 : decode cX9_answer 12 = .ok (.astore 6, 2) := by decide +kernel
theorem dX9_answer_14 : decode cX9_answer 14 = .ok (.iload_n 3, 1) := by decide +kernel
theorem dX9_answer_15 : decode cX9_answer 15 = .ok (.iload 4, 2) := by decide +kernel
theorem dX9_answer_17 : decode cX9_answer 17 = .ok (.invokestatic 113, 3) := by decide +kernel
theorem dX9_answer_20 : decode cX9_answer 20 = .ok (.aload_n 0, 1) := by decide +kernel
theorem dX9_answer_21 : decode cX9_answer 21 = .ok (.aload 5, 2) := by decide +kernel
theorem dX9_answer_23 : decode cX9_answer 23 = .ok (.aload 6, 2) := by decide +kernel
theorem dX9_answer_25 : decode cX9_answer 25 = .ok (.invokevirtual 166, 3) := by decide +kernel
theorem dX9_answer_28 : decode cX9_answer 28 = .ok (.bipush 45, 2) := by decide +kernel
theorem dX9_answer_30 : decode cX9_answer 30 = .ok (.if_icmp .eq 13, 3) := by decide +kernel
theorem dX9_answer_33 : decode cX9_answer 33 = .ok (.new 170, 3) := by decide +kernel
theorem dX9_answer_36 : decode cX9_answer 36 = .ok (.dup, 1) := by decide +kernel
theorem dX9_answer_37 : decode cX9_answer 37 = .ok (.ldc 172, 2) := by decide +kernel
theorem dX9_answer_39 : decode cX9_answer 39 = .ok (.invokespecial 174, 3) := by decide +kernel
theorem dX9_answer_42 : decode cX9_answer 42 = .ok (.athrow, 1) := by decide +kernel
theorem dX9_answer_43 : decode cX9_answer 43 = .ok (.aload_n 0, 1) := by decide +kernel
theorem dX9_answer_44 : decode cX9_answer 44 = .ok (.getfield 25, 3) := by decide +kernel
theorem dX9_answer_47 : decode cX9_answer 47 = .ok (.invokevirtual 58, 3) := by decide +kernel
theorem dX9_answer_50 : decode cX9_answer 50 = .ok (.bipush 100, 2) := by decide +kernel
theorem dX9_answer_52 : decode cX9_answer 52 = .ok (.if_icmp .lt 13, 3) := by decide +kernel
theorem dX9_answer_55 : decode cX9_answer 55 = .ok (.new 62, 3) := by decide +kernel
theorem dX9_answer_58 : decode cX9_answer 58 = .ok (.dup, 1) := by decide +kernel
theorem dX9_answer_59 : decode cX9_answer 59 = .ok (.ldc 175, 2) := by decide +kernel
theorem dX9_answer_61 : decode cX9_answer 61 = .ok (.invokespecial 66, 3) := by decide +kernel
theorem dX9_answer_64 : decode cX9_answer 64 = .ok (.athrow, 1) := by decide +kernel
theorem dX9_answer_65 : decode cX9_answer 65 = .ok (.new 177, 3) := by decide +kernel
theorem dX9_answer_68 : decode cX9_answer 68 = .ok (.dup, 1) := by decide +kernel
theorem dX9_answer_69 : decode cX9_answer 69 = .ok (.aload_n 0, 1) := by decide +kernel
theorem dX9_answer_70 : decode cX9_answer 70 = .ok (.getfield 25, 3) := by decide +kernel
theorem dX9_answer_73 : decode cX9_answer 73 = .ok (.invokevirtual 58, 3) := by decide +kernel
theorem dX9_answer_76 : decode cX9_answer 76 = .ok (.aload 5, 2) := by decide +kernel
theorem dX9_answer_78 : decode cX9_answer 78 = .ok (.aload 6, 2) := by decide +kernel
theorem dX9_answer_80 : decode cX9_answer 80 = .ok (.new 122, 3) := by decide +kernel
theorem dX9_answer_83 : decode cX9_answer 83 = .ok (.dup, 1) := by decide +kernel
theorem dX9_answer_84 : decode cX9_answer 84 = .ok (.iload_n 3, 1) := by decide +kernel
theorem dX9_answer_85 : decode cX9_answer 85 = .ok (.iload 4, 2) := by decide +kernel
theorem dX9_answer_87 : decode cX9_answer 87 = .ok (.invokespecial 124, 3) := by decide +kernel
theorem dX9_answer_90 : decode cX9_answer 90 = .ok (.aload_n 0, 1) := by decide +kernel
theorem dX9_answer_91 : decode cX9_answer 91 = .ok (.getfield 47, 3) := by decide +kernel
theorem dX9_answer_94 : decode cX9_answer 94 = .ok (.invokespecial 179, 3) := by decide +kernel
theorem dX9_answer_97 : decode cX9_answer 97 = .ok (.astore 7, 2) := by decide +kernel
theorem dX9_answer_99 : decode cX9_answer 99 = .ok (.aload 7, 2) := by decide +kernel
theorem dX9_answer_101 : decode cX9_answer 101 = .ok (.aload 7, 2) := by decide +kernel
theorem dX9_answer_103 : decode cX9_answer 103 = .ok (.invokevirtual 182, 3) := by decide +kernel
theorem dX9_answer_106 : decode cX9_answer 106 = .ok (.putfield 185, 3) := by decide +kernel
theorem dX9_answer_109 : decode cX9_answer 109 = .ok (.aload_n 0, 1) := by decide +kernel
theorem dX9_answer_110 : decode cX9_answer 110 = .ok (.getfield 25, 3) := by decide +kernel
theorem dX9_answer_113 : decode cX9_answer 113 = .ok (.aload 7, 2) := by decide +kernel
theorem dX9_answer_115 : decode cX9_answer 115 = .ok (.invokevirtual 72, 3) := by decide +kernel
theorem dX9_answer_118 : decode cX9_answer 118 = .ok (.pop, 1) := by decide +kernel
theorem dX9_answer_119 : decode cX9_answer 119 = .ok (.aload 6, 2) := by decide +kernel
theorem dX9_answer_121 : decode cX9_answer 121 = .ok (.getfield 141, 3) := by decide +kernel
theorem dX9_answer_124 : decode cX9_answer 124 = .ok (.aload 7, 2) := by decide +kernel
theorem dX9_answer_126 : decode cX9_answer 126 = .ok (.invokevirtual 72, 3) := by decide +kernel
theorem dX9_answer_129 : decode cX9_answer 129 = .ok (.pop, 1) := by decide +kernel
theorem dX9_answer_130 : decode cX9_answer 130 = .ok (.aload 7, 2) := by decide +kernel
theorem dX9_answer_132 : decode cX9_answer 132 = .ok (.getfield 188, 3) := by decide +kernel
theorem dX9_answer_135 : decode cX9_answer 135 = .ok (.ireturn, 1) := by decide +kernel
theorem dX9_answerCount_0 : decode cX9_answerCount 0 = .ok (.aload_n 0, 1) := by decide +kernel
theorem dX9_answerCount_1 : decode cX9_answerCount 1 = .ok (.getfield 25, 3) := by decide +kernel
theorem dX9_answerCount_4 : decode cX9_answerCount 4 = .ok (.invokevirtual 58, 3) := by decide +kernel
theorem dX9_answerCount_7 : decode cX9_answerCount 7 = .ok (.ireturn, 1) := by decide +kernel
theorem dX9_gradeOf_0 : decode cX9_gradeOf 0 = .ok (.aload_n 0, 1) := by decide +kernel
theorem dX9_gradeOf_1 : decode cX9_gradeOf 1 = .ok (.iload_n 1, 1) := by decide +kernel
theorem dX9_gradeOf_2 : decode cX9_gradeOf 2 = .ok (.invokevirtual 189, 3) := by decide +kernel
theorem dX9_gradeOf_5 : decode cX9_gradeOf 5 = .ok (.getfield 185, 3) := by decide +kernel
theorem dX9_gradeOf_8 : decode cX9_gradeOf 8 = .ok (.ireturn, 1) := by decide +kernel
theorem dX9_gradeAnew_0 : decode cX9_gradeAnew 0 = .ok (.aload_n 0, 1) := by decide +kernel
theorem dX9_gradeAnew_1 : decode cX9_gradeAnew 1 = .ok (.iload_n 1, 1) := by decide +kernel
theorem dX9_gradeAnew_2 : decode cX9_gradeAnew 2 = .ok (.invokevirtual 189, 3) := by decide +kernel
theorem dX9_gradeAnew_5 : decode cX9_gradeAnew 5 = .ok (.invokevirtual 182, 3) := by decide +kernel
theorem dX9_gradeAnew_8 : decode cX9_gradeAnew 8 = .ok (.ireturn, 1) := by decide +kernel
theorem dX9_creditOf_0 : decode cX9_creditOf 0 = .ok (.aload_n 0, 1) := by decide +kernel
theorem dX9_creditOf_1 : decode cX9_creditOf 1 = .ok (.iload_n 1, 1) := by decide +kernel
theorem dX9_creditOf_2 : decode cX9_creditOf 2 = .ok (.invokevirtual 189, 3) := by decide +kernel
theorem dX9_creditOf_5 : decode cX9_creditOf 5 = .ok (.astore_n 3, 1) := by decide +kernel
theorem dX9_creditOf_6 : decode cX9_creditOf 6 = .ok (.iload_n 2, 1) := by decide +kernel
theorem dX9_creditOf_7 : decode cX9_creditOf 7 = .ok (.ifCond .lt 14, 3) := by decide +kernel
theorem dX9_creditOf_10 : decode cX9_creditOf 10 = .ok (.iload_n 2, 1) := by decide +kernel
theorem dX9_creditOf_11 : decode cX9_creditOf 11 = .ok (.aload_n 3, 1) := by decide +kernel
theorem dX9_creditOf_12 : decode cX9_creditOf 12 = .ok (.getfield 193, 3) := by decide +kernel
theorem dX9_creditOf_15 : decode cX9_creditOf 15 = .ok (.getfield 138, 3) := by decide +kernel
theorem dX9_creditOf_18 : decode cX9_creditOf 18 = .ok (.if_icmp .lt 13, 3) := by decide +kernel
theorem dX9_creditOf_21 : decode cX9_creditOf 21 = .ok (.new 197, 3) := by decide +kernel
theorem dX9_creditOf_24 : decode cX9_creditOf 24 = .ok (.dup, 1) := by decide +kernel
theorem dX9_creditOf_25 : decode cX9_creditOf 25 = .ok (.ldc 199, 2) := by decide +kernel
theorem dX9_creditOf_27 : decode cX9_creditOf 27 = .ok (.invokespecial 201, 3) := by decide +kernel
theorem dX9_creditOf_30 : decode cX9_creditOf 30 = .ok (.athrow, 1) := by decide +kernel
theorem dX9_creditOf_31 : decode cX9_creditOf 31 = .ok (.aload_n 3, 1) := by decide +kernel
theorem dX9_creditOf_32 : decode cX9_creditOf 32 = .ok (.getfield 193, 3) := by decide +kernel
theorem dX9_creditOf_35 : decode cX9_creditOf 35 = .ok (.aload_n 3, 1) := by decide +kernel
theorem dX9_creditOf_36 : decode cX9_creditOf 36 = .ok (.getfield 202, 3) := by decide +kernel
theorem dX9_creditOf_39 : decode cX9_creditOf 39 = .ok (.iload_n 2, 1) := by decide +kernel
theorem dX9_creditOf_40 : decode cX9_creditOf 40 = .ok (.invokevirtual 206, 3) := by decide +kernel
theorem dX9_creditOf_43 : decode cX9_creditOf 43 = .ok (.ireturn, 1) := by decide +kernel
theorem dX9_studentOf_0 : decode cX9_studentOf 0 = .ok (.aload_n 0, 1) := by decide +kernel
theorem dX9_studentOf_1 : decode cX9_studentOf 1 = .ok (.iload_n 1, 1) := by decide +kernel
theorem dX9_studentOf_2 : decode cX9_studentOf 2 = .ok (.invokevirtual 189, 3) := by decide +kernel
theorem dX9_studentOf_5 : decode cX9_studentOf 5 = .ok (.getfield 210, 3) := by decide +kernel
theorem dX9_studentOf_8 : decode cX9_studentOf 8 = .ok (.getfield 214, 3) := by decide +kernel
theorem dX9_studentOf_11 : decode cX9_studentOf 11 = .ok (.ireturn, 1) := by decide +kernel
theorem dX9_dayOf_0 : decode cX9_dayOf 0 = .ok (.aload_n 0, 1) := by decide +kernel
theorem dX9_dayOf_1 : decode cX9_dayOf 1 = .ok (.iload_n 1, 1) := by decide +kernel
theorem dX9_dayOf_2 : decode cX9_dayOf 2 = .ok (.invokevirtual 189, 3) := by decide +kernel
theorem dX9_dayOf_5 : decode cX9_dayOf 5 = .ok (.getfield 215, 3) := by decide +kernel
theorem dX9_dayOf_8 : decode cX9_dayOf 8 = .ok (.ireturn, 1) := by decide +kernel
theorem dX9_bestAnswer_0 : decode cX9_bestAnswer 0 = .ok (.aload_n 0, 1) := by decide +kernel
theorem dX9_bestAnswer_1 : decode cX9_bestAnswer 1 = .ok (.iload_n 2, 1) := by decide +kernel
theorem dX9_bestAnswer_2 : decode cX9_bestAnswer 2 = .ok (.invokevirtual 132, 3) := by decide +kernel
theorem dX9_bestAnswer_5 : decode cX9_bestAnswer 5 = .ok (.aload_n 0, 1) := by decide +kernel
theorem dX9_bestAnswer_6 : decode cX9_bestAnswer 6 = .ok (.iload_n 1, 1) := by decide +kernel
theorem dX9_bestAnswer_7 : decode cX9_bestAnswer 7 = .ok (.invokevirtual 154, 3) := by decide +kernel
theorem dX9_bestAnswer_10 : decode cX9_bestAnswer 10 = .ok (.aload_n 0, 1) := by decide +kernel
theorem dX9_bestAnswer_11 : decode cX9_bestAnswer 11 = .ok (.invokevirtual 158, 3) := by decide +kernel
theorem dX9_bestAnswer_14 : decode cX9_bestAnswer 14 = .ok (.invokevirtual 216, 3) := by decide +kernel
theorem dX9_bestAnswer_17 : decode cX9_bestAnswer 17 = .ok (.astore_n 3, 1) := by decide +kernel
theorem dX9_bestAnswer_18 : decode cX9_bestAnswer 18 = .ok (.aload_n 3, 1) := by decide +kernel
theorem dX9_bestAnswer_19 : decode cX9_bestAnswer 19 = .ok (.ifnonnull 13, 3) := by decide +kernel
theorem dX9_bestAnswer_22 : decode cX9_bestAnswer 22 = .ok (.new 197, 3) := by decide +kernel
theorem dX9_bestAnswer_25 : decode cX9_bestAnswer 25 = .ok (.dup, 1) := by decide +kernel
theorem dX9_bestAnswer_26 : decode cX9_bestAnswer 26 = .ok (.ldc 220, 2) := by decide +kernel
theorem dX9_bestAnswer_28 : decode cX9_bestAnswer 28 = .ok (.invokespecial 201, 3) := by decide +kernel
theorem dX9_bestAnswer_31 : decode cX9_bestAnswer 31 = .ok (.athrow, 1) := by decide +kernel
theorem dX9_bestAnswer_32 : decode cX9_bestAnswer 32 = .ok (.aload_n 3, 1) := by decide +kernel
theorem dX9_bestAnswer_33 : decode cX9_bestAnswer 33 = .ok (.getfield 188, 3) := by decide +kernel
theorem dX9_bestAnswer_36 : decode cX9_bestAnswer 36 = .ok (.ireturn, 1) := by decide +kernel
theorem dX9_mastery_0 : decode cX9_mastery 0 = .ok (.aload_n 0, 1) := by decide +kernel
theorem dX9_mastery_1 : decode cX9_mastery 1 = .ok (.iload_n 2, 1) := by decide +kernel
theorem dX9_mastery_2 : decode cX9_mastery 2 = .ok (.invokevirtual 109, 3) := by decide +kernel
theorem dX9_mastery_5 : decode cX9_mastery 5 = .ok (.aload_n 0, 1) := by decide +kernel
theorem dX9_mastery_6 : decode cX9_mastery 6 = .ok (.iload_n 1, 1) := by decide +kernel
theorem dX9_mastery_7 : decode cX9_mastery 7 = .ok (.invokevirtual 154, 3) := by decide +kernel
theorem dX9_mastery_10 : decode cX9_mastery 10 = .ok (.aload_n 0, 1) := by decide +kernel
theorem dX9_mastery_11 : decode cX9_mastery 11 = .ok (.invokevirtual 158, 3) := by decide +kernel
theorem dX9_mastery_14 : decode cX9_mastery 14 = .ok (.invokevirtual 222, 3) := by decide +kernel
theorem dX9_mastery_17 : decode cX9_mastery 17 = .ok (.ireturn, 1) := by decide +kernel
theorem dX9_masteryAnew_0 : decode cX9_masteryAnew 0 = .ok (.aload_n 0, 1) := by decide +kernel
theorem dX9_masteryAnew_1 : decode cX9_masteryAnew 1 = .ok (.aload_n 0, 1) := by decide +kernel
theorem dX9_masteryAnew_2 : decode cX9_masteryAnew 2 = .ok (.iload_n 1, 1) := by decide +kernel
theorem dX9_masteryAnew_3 : decode cX9_masteryAnew 3 = .ok (.invokevirtual 154, 3) := by decide +kernel
theorem dX9_masteryAnew_6 : decode cX9_masteryAnew 6 = .ok (.aload_n 0, 1) := by decide +kernel
theorem dX9_masteryAnew_7 : decode cX9_masteryAnew 7 = .ok (.iload_n 2, 1) := by decide +kernel
theorem dX9_masteryAnew_8 : decode cX9_masteryAnew 8 = .ok (.invokevirtual 109, 3) := by decide +kernel
theorem dX9_masteryAnew_11 : decode cX9_masteryAnew 11 = .ok (.invokevirtual 226, 3) := by decide +kernel
theorem dX9_masteryAnew_14 : decode cX9_masteryAnew 14 = .ok (.ireturn, 1) := by decide +kernel
theorem dX9_appeal_0 : decode cX9_appeal 0 = .ok (.aload_n 0, 1) := by decide +kernel
theorem dX9_appeal_1 : decode cX9_appeal 1 = .ok (.iload_n 1, 1) := by decide +kernel
theorem dX9_appeal_2 : decode cX9_appeal 2 = .ok (.invokevirtual 189, 3) := by decide +kernel
theorem dX9_appeal_5 : decode cX9_appeal 5 = .ok (.astore_n 2, 1) := by decide +kernel
theorem dX9_appeal_6 : decode cX9_appeal 6 = .ok (.aload_n 2, 1) := by decide +kernel
theorem dX9_appeal_7 : decode cX9_appeal 7 = .ok (.getfield 230, 3) := by decide +kernel
theorem dX9_appeal_10 : decode cX9_appeal 10 = .ok (.ifCond .ne 10, 3) := by decide +kernel
theorem dX9_appeal_13 : decode cX9_appeal 13 = .ok (.aload_n 2, 1) := by decide +kernel
theorem dX9_appeal_14 : decode cX9_appeal 14 = .ok (.getfield 234, 3) := by decide +kernel
theorem dX9_appeal_17 : decode cX9_appeal 17 = .ok (.ifCond .eq 13, 3) := by decide +kernel
theorem dX9_appeal_20 : decode cX9_appeal 20 = .ok (.new 62, 3) := by decide +kernel
theorem dX9_appeal_23 : decode cX9_appeal 23 = .ok (.dup, 1) := by decide +kernel
theorem dX9_appeal_24 : decode cX9_appeal 24 = .ok (.ldc 237, 2) := by decide +kernel
theorem dX9_appeal_26 : decode cX9_appeal 26 = .ok (.invokespecial 66, 3) := by decide +kernel
theorem dX9_appeal_29 : decode cX9_appeal 29 = .ok (.athrow, 1) := by decide +kernel
theorem dX9_appeal_30 : decode cX9_appeal 30 = .ok (.aload_n 2, 1) := by decide +kernel
theorem dX9_appeal_31 : decode cX9_appeal 31 = .ok (.iconst 1, 1) := by decide +kernel
theorem dX9_appeal_32 : decode cX9_appeal 32 = .ok (.putfield 230, 3) := by decide +kernel
theorem dX9_appeal_35 : decode cX9_appeal 35 = .ok (.aload_n 0, 1) := by decide +kernel
theorem dX9_appeal_36 : decode cX9_appeal 36 = .ok (.getfield 34, 3) := by decide +kernel
theorem dX9_appeal_39 : decode cX9_appeal 39 = .ok (.aload_n 2, 1) := by decide +kernel
theorem dX9_appeal_40 : decode cX9_appeal 40 = .ok (.invokevirtual 72, 3) := by decide +kernel
theorem dX9_appeal_43 : decode cX9_appeal 43 = .ok (.pop, 1) := by decide +kernel
theorem dX9_appeal_44 : decode cX9_appeal 44 = .ok (.aload_n 0, 1) := by decide +kernel
theorem dX9_appeal_45 : decode cX9_appeal 45 = .ok (.getfield 34, 3) := by decide +kernel
theorem dX9_appeal_48 : decode cX9_appeal 48 = .ok (.invokevirtual 58, 3) := by decide +kernel
theorem dX9_appeal_51 : decode cX9_appeal 51 = .ok (.ireturn, 1) := by decide +kernel
theorem dX9_withdraw_0 : decode cX9_withdraw 0 = .ok (.aload_n 0, 1) := by decide +kernel
theorem dX9_withdraw_1 : decode cX9_withdraw 1 = .ok (.iload_n 1, 1) := by decide +kernel
theorem dX9_withdraw_2 : decode cX9_withdraw 2 = .ok (.invokevirtual 189, 3) := by decide +kernel
theorem dX9_withdraw_5 : decode cX9_withdraw 5 = .ok (.astore_n 2, 1) := by decide +kernel
theorem dX9_withdraw_6 : decode cX9_withdraw 6 = .ok (.aload_n 2, 1) := by decide +kernel
theorem dX9_withdraw_7 : decode cX9_withdraw 7 = .ok (.getfield 230, 3) := by decide +kernel
theorem dX9_withdraw_10 : decode cX9_withdraw 10 = .ok (.ifCond .ne 13, 3) := by decide +kernel
theorem dX9_withdraw_13 : decode cX9_withdraw 13 = .ok (.new 197, 3) := by decide +kernel
theorem dX9_withdraw_16 : decode cX9_withdraw 16 = .ok (.dup, 1) := by decide +kernel
theorem dX9_withdraw_17 : decode cX9_withdraw 17 = .ok (.ldc 239, 2) := by decide +kernel
theorem dX9_withdraw_19 : decode cX9_withdraw 19 = .ok (.invokespecial 201, 3) := by decide +kernel
theorem dX9_withdraw_22 : decode cX9_withdraw 22 = .ok (.athrow, 1) := by decide +kernel
theorem dX9_withdraw_23 : decode cX9_withdraw 23 = .ok (.aload_n 2, 1) := by decide +kernel
theorem dX9_withdraw_24 : decode cX9_withdraw 24 = .ok (.iconst 0, 1) := by decide +kernel
theorem dX9_withdraw_25 : decode cX9_withdraw 25 = .ok (.putfield 230, 3) := by decide +kernel
theorem dX9_withdraw_28 : decode cX9_withdraw 28 = .ok (.aload_n 0, 1) := by decide +kernel
theorem dX9_withdraw_29 : decode cX9_withdraw 29 = .ok (.invokevirtual 241, 3) := by decide +kernel
theorem dX9_withdraw_32 : decode cX9_withdraw 32 = .ok (.aload_n 0, 1) := by decide +kernel
theorem dX9_withdraw_33 : decode cX9_withdraw 33 = .ok (.getfield 34, 3) := by decide +kernel
theorem dX9_withdraw_36 : decode cX9_withdraw 36 = .ok (.invokevirtual 58, 3) := by decide +kernel
theorem dX9_withdraw_39 : decode cX9_withdraw 39 = .ok (.ireturn, 1) := by decide +kernel
theorem dX9_decide_0 : decode cX9_decide 0 = .ok (.iload_n 1, 1) := by decide +kernel
theorem dX9_decide_1 : decode cX9_decide 1 = .ok (.iconst 0, 1) := by decide +kernel
theorem dX9_decide_2 : decode cX9_decide 2 = .ok (.bipush 100, 2) := by decide +kernel
theorem dX9_decide_4 : decode cX9_decide 4 = .ok (.invokestatic 98, 3) := by decide +kernel
theorem dX9_decide_7 : decode cX9_decide 7 = .ok (.ifCond .ne 13, 3) := by decide +kernel
theorem dX9_decide_10 : decode cX9_decide 10 = .ok (.new 51, 3) := by decide +kernel
theorem dX9_decide_13 : decode cX9_decide 13 = .ok (.dup, 1) := by decide +kernel
theorem dX9_decide_14 : decode cX9_decide 14 = .ok (.ldc 244, 2) := by decide +kernel
theorem dX9_decide_16 : decode cX9_decide 16 = .ok (.invokespecial 55, 3) := by decide +kernel
theorem dX9_decide_19 : decode cX9_decide 19 = .ok (.athrow, 1) := by decide +kernel
theorem dX9_decide_20 : decode cX9_decide 20 = .ok (.aload_n 0, 1) := by decide +kernel
theorem dX9_decide_21 : decode cX9_decide 21 = .ok (.getfield 34, 3) := by decide +kernel
theorem dX9_decide_24 : decode cX9_decide 24 = .ok (.invokevirtual 142, 3) := by decide +kernel
theorem dX9_decide_27 : decode cX9_decide 27 = .ok (.ifCond .eq 13, 3) := by decide +kernel
theorem dX9_decide_30 : decode cX9_decide 30 = .ok (.new 197, 3) := by decide +kernel
theorem dX9_decide_33 : decode cX9_decide 33 = .ok (.dup, 1) := by decide +kernel
theorem dX9_decide_34 : decode cX9_decide 34 = .ok (.ldc 246, 2) := by decide +kernel
theorem dX9_decide_36 : decode cX9_decide 36 = .ok (.invokespecial 201, 3) := by decide +kernel
theorem dX9_decide_39 : decode cX9_decide 39 = .ok (.athrow, 1) := by decide +kernel
theorem dX9_decide_40 : decode cX9_decide 40 = .ok (.aload_n 0, 1) := by decide +kernel
theorem dX9_decide_41 : decode cX9_decide 41 = .ok (.getfield 34, 3) := by decide +kernel
theorem dX9_decide_44 : decode cX9_decide 44 = .ok (.iconst 0, 1) := by decide +kernel
theorem dX9_decide_45 : decode cX9_decide 45 = .ok (.invokevirtual 248, 3) := by decide +kernel
theorem dX9_decide_48 : decode cX9_decide 48 = .ok (.checkcast 177, 3) := by decide +kernel
theorem dX9_decide_51 : decode cX9_decide 51 = .ok (.astore_n 2, 1) := by decide +kernel
theorem dX9_decide_52 : decode cX9_decide 52 = .ok (.aload_n 2, 1) := by decide +kernel
theorem dX9_decide_53 : decode cX9_decide 53 = .ok (.iconst 0, 1) := by decide +kernel
theorem dX9_decide_54 : decode cX9_decide 54 = .ok (.putfield 230, 3) := by decide +kernel
theorem dX9_decide_57 : decode cX9_decide 57 = .ok (.aload_n 2, 1) := by decide +kernel
theorem dX9_decide_58 : decode cX9_decide 58 = .ok (.iconst 1, 1) := by decide +kernel
theorem dX9_decide_59 : decode cX9_decide 59 = .ok (.putfield 234, 3) := by decide +kernel
theorem dX9_decide_62 : decode cX9_decide 62 = .ok (.aload_n 2, 1) := by decide +kernel
theorem dX9_decide_63 : decode cX9_decide 63 = .ok (.iload_n 1, 1) := by decide +kernel
theorem dX9_decide_64 : decode cX9_decide 64 = .ok (.putfield 251, 3) := by decide +kernel
theorem dX9_decide_67 : decode cX9_decide 67 = .ok (.aload_n 2, 1) := by decide +kernel
theorem dX9_decide_68 : decode cX9_decide 68 = .ok (.aload_n 2, 1) := by decide +kernel
theorem dX9_decide_69 : decode cX9_decide 69 = .ok (.invokevirtual 182, 3) := by decide +kernel
theorem dX9_decide_72 : decode cX9_decide 72 = .ok (.putfield 185, 3) := by decide +kernel
theorem dX9_decide_75 : decode cX9_decide 75 = .ok (.aload_n 2, 1) := by decide +kernel
theorem dX9_decide_76 : decode cX9_decide 76 = .ok (.getfield 188, 3) := by decide +kernel
theorem dX9_decide_79 : decode cX9_decide 79 = .ok (.ireturn, 1) := by decide +kernel
theorem dX9_appealCount_0 : decode cX9_appealCount 0 = .ok (.aload_n 0, 1) := by decide +kernel
theorem dX9_appealCount_1 : decode cX9_appealCount 1 = .ok (.getfield 34, 3) := by decide +kernel
theorem dX9_appealCount_4 : decode cX9_appealCount 4 = .ok (.invokevirtual 58, 3) := by decide +kernel
theorem dX9_appealCount_7 : decode cX9_appealCount 7 = .ok (.ireturn, 1) := by decide +kernel
theorem dX9_appealAt_0 : decode cX9_appealAt 0 = .ok (.iload_n 1, 1) := by decide +kernel
theorem dX9_appealAt_1 : decode cX9_appealAt 1 = .ok (.ifCond .lt 14, 3) := by decide +kernel
theorem dX9_appealAt_4 : decode cX9_appealAt 4 = .ok (.iload_n 1, 1) := by decide +kernel
theorem dX9_appealAt_5 : decode cX9_appealAt 5 = .ok (.aload_n 0, 1) := by decide +kernel
theorem dX9_appealAt_6 : decode cX9_appealAt 6 = .ok (.getfield 34, 3) := by decide +kernel
theorem dX9_appealAt_9 : decode cX9_appealAt 9 = .ok (.invokevirtual 58, 3) := by decide +kernel
theorem dX9_appealAt_12 : decode cX9_appealAt 12 = .ok (.if_icmp .lt 13, 3) := by decide +kernel
theorem dX9_appealAt_15 : decode cX9_appealAt 15 = .ok (.new 76, 3) := by decide +kernel
theorem dX9_appealAt_18 : decode cX9_appealAt 18 = .ok (.dup, 1) := by decide +kernel
theorem dX9_appealAt_19 : decode cX9_appealAt 19 = .ok (.ldc 254, 2) := by decide +kernel
theorem dX9_appealAt_21 : decode cX9_appealAt 21 = .ok (.invokespecial 80, 3) := by decide +kernel
theorem dX9_appealAt_24 : decode cX9_appealAt 24 = .ok (.athrow, 1) := by decide +kernel
theorem dX9_appealAt_25 : decode cX9_appealAt 25 = .ok (.aload_n 0, 1) := by decide +kernel
theorem dX9_appealAt_26 : decode cX9_appealAt 26 = .ok (.getfield 34, 3) := by decide +kernel
theorem dX9_appealAt_29 : decode cX9_appealAt 29 = .ok (.iload_n 1, 1) := by decide +kernel
theorem dX9_appealAt_30 : decode cX9_appealAt 30 = .ok (.invokevirtual 85, 3) := by decide +kernel
theorem dX9_appealAt_33 : decode cX9_appealAt 33 = .ok (.checkcast 177, 3) := by decide +kernel
theorem dX9_appealAt_36 : decode cX9_appealAt 36 = .ok (.getfield 188, 3) := by decide +kernel
theorem dX9_appealAt_39 : decode cX9_appealAt 39 = .ok (.ireturn, 1) := by decide +kernel
theorem dX9_mend_0 : decode cX9_mend 0 = .ok (.aload_n 0, 1) := by decide +kernel
theorem dX9_mend_1 : decode cX9_mend 1 = .ok (.iload_n 1, 1) := by decide +kernel
theorem dX9_mend_2 : decode cX9_mend 2 = .ok (.invokevirtual 132, 3) := by decide +kernel
theorem dX9_mend_5 : decode cX9_mend 5 = .ok (.astore 4, 2) := by decide +kernel
theorem dX9_mend_7 : decode cX9_mend 7 = .ok (.iload_n 2, 1) := by decide +kernel
theorem dX9_mend_8 : decode cX9_mend 8 = .ok (.iload_n 3, 1) := by decide +kernel
theorem dX9_mend_9 : decode cX9_mend 9 = .ok (.invokestatic 113, 3) := by decide +kernel
theorem dX9_mend_12 : decode cX9_mend 12 = .ok (.aload 4, 2) := by decide +kernel
theorem dX9_mend_14 : decode cX9_mend 14 = .ok (.getfield 256, 3) := by decide +kernel
theorem dX9_mend_17 : decode cX9_mend 17 = .ok (.getfield 257, 3) := by decide +kernel
theorem dX9_mend_20 : decode cX9_mend 20 = .ok (.iload_n 2, 1) := by decide +kernel
theorem dX9_mend_21 : decode cX9_mend 21 = .ok (.if_icmp .ne 26, 3) := by decide +kernel
theorem dX9_mend_24 : decode cX9_mend 24 = .ok (.aload 4, 2) := by decide +kernel
theorem dX9_mend_26 : decode cX9_mend 26 = .ok (.getfield 256, 3) := by decide +kernel
theorem dX9_mend_29 : decode cX9_mend 29 = .ok (.getfield 260, 3) := by decide +kernel
theorem dX9_mend_32 : decode cX9_mend 32 = .ok (.iload_n 3, 1) := by decide +kernel
theorem dX9_mend_33 : decode cX9_mend 33 = .ok (.if_icmp .ne 14, 3) := by decide +kernel
theorem dX9_mend_36 : decode cX9_mend 36 = .ok (.new 62, 3) := by decide +kernel
theorem dX9_mend_39 : decode cX9_mend 39 = .ok (.dup, 1) := by decide +kernel
theorem dX9_mend_40 : decode cX9_mend 40 = .ok (.ldc_w 263, 3) := by decide +kernel
theorem dX9_mend_43 : decode cX9_mend 43 = .ok (.invokespecial 66, 3) := by decide +kernel
theorem dX9_mend_46 : decode cX9_mend 46 = .ok (.athrow, 1) := by decide +kernel
theorem dX9_mend_47 : decode cX9_mend 47 = .ok (.aload 4, 2) := by decide +kernel
theorem dX9_mend_49 : decode cX9_mend 49 = .ok (.new 122, 3) := by decide +kernel
theorem dX9_mend_52 : decode cX9_mend 52 = .ok (.dup, 1) := by decide +kernel
theorem dX9_mend_53 : decode cX9_mend 53 = .ok (.iload_n 2, 1) := by decide +kernel
theorem dX9_mend_54 : decode cX9_mend 54 = .ok (.iload_n 3, 1) := by decide +kernel
theorem dX9_mend_55 : decode cX9_mend 55 = .ok (.invokespecial 124, 3) := by decide +kernel
theorem dX9_mend_58 : decode cX9_mend 58 = .ok (.putfield 256, 3) := by decide +kernel
theorem dX9_mend_61 : decode cX9_mend 61 = .ok (.aload 4, 2) := by decide +kernel
theorem dX9_mend_63 : decode cX9_mend 63 = .ok (.getfield 265, 3) := by decide +kernel
theorem dX9_mend_66 : decode cX9_mend 66 = .ok (.dup, 1) := by decide +kernel
theorem dX9_mend_67 : decode cX9_mend 67 = .ok (.getfield 151, 3) := by decide +kernel
theorem dX9_mend_70 : decode cX9_mend 70 = .ok (.iconst 1, 1) := by decide +kernel
theorem dX9_mend_71 : decode cX9_mend 71 = .ok (.iadd, 1) := by decide +kernel
theorem dX9_mend_72 : decode cX9_mend 72 = .ok (.putfield 151, 3) := by decide +kernel
theorem dX9_mend_75 : decode cX9_mend 75 = .ok (.aload_n 0, 1) := by decide +kernel
theorem dX9_mend_76 : decode cX9_mend 76 = .ok (.aload 4, 2) := by decide +kernel
theorem dX9_mend_78 : decode cX9_mend 78 = .ok (.invokevirtual 269, 3) := by decide +kernel
theorem dX9_mend_81 : decode cX9_mend 81 = .ok (.istore 5, 2) := by decide +kernel
theorem dX9_mend_83 : decode cX9_mend 83 = .ok (.aload_n 0, 1) := by decide +kernel
theorem dX9_mend_84 : decode cX9_mend 84 = .ok (.invokevirtual 241, 3) := by decide +kernel
theorem dX9_mend_87 : decode cX9_mend 87 = .ok (.aload_n 0, 1) := by decide +kernel
theorem dX9_mend_88 : decode cX9_mend 88 = .ok (.invokevirtual 273, 3) := by decide +kernel
theorem dX9_mend_91 : decode cX9_mend 91 = .ok (.iload 5, 2) := by decide +kernel
theorem dX9_mend_93 : decode cX9_mend 93 = .ok (.ireturn, 1) := by decide +kernel
theorem dX9_harmedCount_0 : decode cX9_harmedCount 0 = .ok (.aload_n 0, 1) := by decide +kernel
theorem dX9_harmedCount_1 : decode cX9_harmedCount 1 = .ok (.getfield 37, 3) := by decide +kernel
theorem dX9_harmedCount_4 : decode cX9_harmedCount 4 = .ok (.invokevirtual 58, 3) := by decide +kernel
theorem dX9_harmedCount_7 : decode cX9_harmedCount 7 = .ok (.ireturn, 1) := by decide +kernel
theorem dX9_harmedAt_0 : decode cX9_harmedAt 0 = .ok (.iload_n 1, 1) := by decide +kernel
theorem dX9_harmedAt_1 : decode cX9_harmedAt 1 = .ok (.ifCond .lt 14, 3) := by decide +kernel
theorem dX9_harmedAt_4 : decode cX9_harmedAt 4 = .ok (.iload_n 1, 1) := by decide +kernel
theorem dX9_harmedAt_5 : decode cX9_harmedAt 5 = .ok (.aload_n 0, 1) := by decide +kernel
theorem dX9_harmedAt_6 : decode cX9_harmedAt 6 = .ok (.getfield 37, 3) := by decide +kernel
theorem dX9_harmedAt_9 : decode cX9_harmedAt 9 = .ok (.invokevirtual 58, 3) := by decide +kernel
theorem dX9_harmedAt_12 : decode cX9_harmedAt 12 = .ok (.if_icmp .lt 13, 3) := by decide +kernel
theorem dX9_harmedAt_15 : decode cX9_harmedAt 15 = .ok (.new 76, 3) := by decide +kernel
theorem dX9_harmedAt_18 : decode cX9_harmedAt 18 = .ok (.dup, 1) := by decide +kernel
theorem dX9_harmedAt_19 : decode cX9_harmedAt 19 = .ok (.ldc 254, 2) := by decide +kernel
theorem dX9_harmedAt_21 : decode cX9_harmedAt 21 = .ok (.invokespecial 80, 3) := by decide +kernel
theorem dX9_harmedAt_24 : decode cX9_harmedAt 24 = .ok (.athrow, 1) := by decide +kernel
theorem dX9_harmedAt_25 : decode cX9_harmedAt 25 = .ok (.aload_n 0, 1) := by decide +kernel
theorem dX9_harmedAt_26 : decode cX9_harmedAt 26 = .ok (.getfield 37, 3) := by decide +kernel
theorem dX9_harmedAt_29 : decode cX9_harmedAt 29 = .ok (.iload_n 1, 1) := by decide +kernel
theorem dX9_harmedAt_30 : decode cX9_harmedAt 30 = .ok (.invokevirtual 85, 3) := by decide +kernel
theorem dX9_harmedAt_33 : decode cX9_harmedAt 33 = .ok (.checkcast 177, 3) := by decide +kernel
theorem dX9_harmedAt_36 : decode cX9_harmedAt 36 = .ok (.getfield 188, 3) := by decide +kernel
theorem dX9_harmedAt_39 : decode cX9_harmedAt 39 = .ok (.ireturn, 1) := by decide +kernel
theorem dX9_addCourse_0 : decode cX9_addCourse 0 = .ok (.iload_n 1, 1) := by decide +kernel
theorem dX9_addCourse_1 : decode cX9_addCourse 1 = .ok (.ifCond .eq 11, 3) := by decide +kernel
theorem dX9_addCourse_4 : decode cX9_addCourse 4 = .ok (.aload_n 0, 1) := by decide +kernel
theorem dX9_addCourse_5 : decode cX9_addCourse 5 = .ok (.iload_n 1, 1) := by decide +kernel
theorem dX9_addCourse_6 : decode cX9_addCourse 6 = .ok (.invokevirtual 92, 3) := by decide +kernel
theorem dX9_addCourse_9 : decode cX9_addCourse 9 = .ok (.ifCond .ne 14, 3) := by decide +kernel
theorem dX9_addCourse_12 : decode cX9_addCourse 12 = .ok (.new 51, 3) := by decide +kernel
theorem dX9_addCourse_15 : decode cX9_addCourse 15 = .ok (.dup, 1) := by decide +kernel
theorem dX9_addCourse_16 : decode cX9_addCourse 16 = .ok (.ldc_w 276, 3) := by decide +kernel
theorem dX9_addCourse_19 : decode cX9_addCourse 19 = .ok (.invokespecial 55, 3) := by decide +kernel
theorem dX9_addCourse_22 : decode cX9_addCourse 22 = .ok (.athrow, 1) := by decide +kernel
theorem dX9_addCourse_23 : decode cX9_addCourse 23 = .ok (.iload_n 2, 1) := by decide +kernel
theorem dX9_addCourse_24 : decode cX9_addCourse 24 = .ok (.iconst 1, 1) := by decide +kernel
theorem dX9_addCourse_25 : decode cX9_addCourse 25 = .ok (.bipush 100, 2) := by decide +kernel
theorem dX9_addCourse_27 : decode cX9_addCourse 27 = .ok (.invokestatic 98, 3) := by decide +kernel
theorem dX9_addCourse_30 : decode cX9_addCourse 30 = .ok (.ifCond .ne 14, 3) := by decide +kernel
theorem dX9_addCourse_33 : decode cX9_addCourse 33 = .ok (.new 51, 3) := by decide +kernel
theorem dX9_addCourse_36 : decode cX9_addCourse 36 = .ok (.dup, 1) := by decide +kernel
theorem dX9_addCourse_37 : decode cX9_addCourse 37 = .ok (.ldc_w 278, 3) := by decide +kernel
theorem dX9_addCourse_40 : decode cX9_addCourse 40 = .ok (.invokespecial 55, 3) := by decide +kernel
theorem dX9_addCourse_43 : decode cX9_addCourse 43 = .ok (.athrow, 1) := by decide +kernel
theorem dX9_addCourse_44 : decode cX9_addCourse 44 = .ok (.aload_n 0, 1) := by decide +kernel
theorem dX9_addCourse_45 : decode cX9_addCourse 45 = .ok (.getfield 28, 3) := by decide +kernel
theorem dX9_addCourse_48 : decode cX9_addCourse 48 = .ok (.invokevirtual 58, 3) := by decide +kernel
theorem dX9_addCourse_51 : decode cX9_addCourse 51 = .ok (.iconst 4, 1) := by decide +kernel
theorem dX9_addCourse_52 : decode cX9_addCourse 52 = .ok (.if_icmp .lt 14, 3) := by decide +kernel
theorem dX9_addCourse_55 : decode cX9_addCourse 55 = .ok (.new 62, 3) := by decide +kernel
theorem dX9_addCourse_58 : decode cX9_addCourse 58 = .ok (.dup, 1) := by decide +kernel
theorem dX9_addCourse_59 : decode cX9_addCourse 59 = .ok (.ldc_w 280, 3) := by decide +kernel
theorem dX9_addCourse_62 : decode cX9_addCourse 62 = .ok (.invokespecial 66, 3) := by decide +kernel
theorem dX9_addCourse_65 : decode cX9_addCourse 65 = .ok (.athrow, 1) := by decide +kernel
theorem dX9_addCourse_66 : decode cX9_addCourse 66 = .ok (.aload_n 0, 1) := by decide +kernel
theorem dX9_addCourse_67 : decode cX9_addCourse 67 = .ok (.getfield 28, 3) := by decide +kernel
theorem dX9_addCourse_70 : decode cX9_addCourse 70 = .ok (.new 282, 3) := by decide +kernel
theorem dX9_addCourse_73 : decode cX9_addCourse 73 = .ok (.dup, 1) := by decide +kernel
theorem dX9_addCourse_74 : decode cX9_addCourse 74 = .ok (.iload_n 1, 1) := by decide +kernel
theorem dX9_addCourse_75 : decode cX9_addCourse 75 = .ok (.iload_n 2, 1) := by decide +kernel
theorem dX9_addCourse_76 : decode cX9_addCourse 76 = .ok (.invokespecial 284, 3) := by decide +kernel
theorem dX9_addCourse_79 : decode cX9_addCourse 79 = .ok (.invokevirtual 72, 3) := by decide +kernel
theorem dX9_addCourse_82 : decode cX9_addCourse 82 = .ok (.pop, 1) := by decide +kernel
theorem dX9_addCourse_83 : decode cX9_addCourse 83 = .ok (.aload_n 0, 1) := by decide +kernel
theorem dX9_addCourse_84 : decode cX9_addCourse 84 = .ok (.getfield 28, 3) := by decide +kernel
theorem dX9_addCourse_87 : decode cX9_addCourse 87 = .ok (.invokevirtual 58, 3) := by decide +kernel
theorem dX9_addCourse_90 : decode cX9_addCourse 90 = .ok (.iconst 1, 1) := by decide +kernel
theorem dX9_addCourse_91 : decode cX9_addCourse 91 = .ok (.isub, 1) := by decide +kernel
theorem dX9_addCourse_92 : decode cX9_addCourse 92 = .ok (.ireturn, 1) := by decide +kernel
theorem dX9_issue_0 : decode cX9_issue 0 = .ok (.aload_n 0, 1) := by decide +kernel
theorem dX9_issue_1 : decode cX9_issue 1 = .ok (.iload_n 1, 1) := by decide +kernel
theorem dX9_issue_2 : decode cX9_issue 2 = .ok (.invokevirtual 154, 3) := by decide +kernel
theorem dX9_issue_5 : decode cX9_issue 5 = .ok (.astore_n 3, 1) := by decide +kernel
theorem dX9_issue_6 : decode cX9_issue 6 = .ok (.aload_n 0, 1) := by decide +kernel
theorem dX9_issue_7 : decode cX9_issue 7 = .ok (.iload_n 2, 1) := by decide +kernel
theorem dX9_issue_8 : decode cX9_issue 8 = .ok (.invokevirtual 285, 3) := by decide +kernel
theorem dX9_issue_11 : decode cX9_issue 11 = .ok (.astore 4, 2) := by decide +kernel
theorem dX9_issue_13 : decode cX9_issue 13 = .ok (.aload_n 0, 1) := by decide +kernel
theorem dX9_issue_14 : decode cX9_issue 14 = .ok (.aload_n 3, 1) := by decide +kernel
theorem dX9_issue_15 : decode cX9_issue 15 = .ok (.aload 4, 2) := by decide +kernel
theorem dX9_issue_17 : decode cX9_issue 17 = .ok (.invokevirtual 289, 3) := by decide +kernel
theorem dX9_issue_20 : decode cX9_issue 20 = .ok (.ifnonnull 15, 3) := by decide +kernel
theorem dX9_issue_23 : decode cX9_issue 23 = .ok (.aload_n 0, 1) := by decide +kernel
theorem dX9_issue_24 : decode cX9_issue 24 = .ok (.getfield 31, 3) := by decide +kernel
theorem dX9_issue_27 : decode cX9_issue 27 = .ok (.invokevirtual 58, 3) := by decide +kernel
theorem dX9_issue_30 : decode cX9_issue 30 = .ok (.bipush 30, 2) := by decide +kernel
theorem dX9_issue_32 : decode cX9_issue 32 = .ok (.if_icmp .lt 14, 3) := by decide +kernel
theorem dX9_issue_35 : decode cX9_issue 35 = .ok (.new 62, 3) := by decide +kernel
theorem dX9_issue_38 : decode cX9_issue 38 = .ok (.dup, 1) := by decide +kernel
theorem dX9_issue_39 : decode cX9_issue 39 = .ok (.ldc_w 293, 3) := by decide +kernel
theorem dX9_issue_42 : decode cX9_issue 42 = .ok (.invokespecial 66, 3) := by decide +kernel
theorem dX9_issue_45 : decode cX9_issue 45 = .ok (.athrow, 1) := by decide +kernel
theorem dX9_issue_46 : decode cX9_issue 46 = .ok (.aload_n 0, 1) := by decide +kernel
theorem dX9_issue_47 : decode cX9_issue 47 = .ok (.invokevirtual 158, 3) := by decide +kernel
theorem dX9_issue_50 : decode cX9_issue 50 = .ok (.astore 5, 2) := by decide +kernel
theorem dX9_issue_52 : decode cX9_issue 52 = .ok (.aload_n 0, 1) := by decide +kernel
theorem dX9_issue_53 : decode cX9_issue 53 = .ok (.aload_n 3, 1) := by decide +kernel
theorem dX9_issue_54 : decode cX9_issue 54 = .ok (.aload 4, 2) := by decide +kernel
theorem dX9_issue_56 : decode cX9_issue 56 = .ok (.getfield 295, 3) := by decide +kernel
theorem dX9_issue_59 : decode cX9_issue 59 = .ok (.aload 4, 2) := by decide +kernel
theorem dX9_issue_61 : decode cX9_issue 61 = .ok (.getfield 297, 3) := by decide +kernel
theorem dX9_issue_64 : decode cX9_issue 64 = .ok (.aload 5, 2) := by decide +kernel
theorem dX9_issue_66 : decode cX9_issue 66 = .ok (.invokevirtual 300, 3) := by decide +kernel
theorem dX9_issue_69 : decode cX9_issue 69 = .ok (.ifCond .ne 14, 3) := by decide +kernel
theorem dX9_issue_72 : decode cX9_issue 72 = .ok (.new 170, 3) := by decide +kernel
theorem dX9_issue_75 : decode cX9_issue 75 = .ok (.dup, 1) := by decide +kernel
theorem dX9_issue_76 : decode cX9_issue 76 = .ok (.ldc_w 304, 3) := by decide +kernel
theorem dX9_issue_79 : decode cX9_issue 79 = .ok (.invokespecial 174, 3) := by decide +kernel
theorem dX9_issue_82 : decode cX9_issue 82 = .ok (.athrow, 1) := by decide +kernel
theorem dX9_issue_83 : decode cX9_issue 83 = .ok (.aload_n 0, 1) := by decide +kernel
theorem dX9_issue_84 : decode cX9_issue 84 = .ok (.getfield 31, 3) := by decide +kernel
theorem dX9_issue_87 : decode cX9_issue 87 = .ok (.new 306, 3) := by decide +kernel
theorem dX9_issue_90 : decode cX9_issue 90 = .ok (.dup, 1) := by decide +kernel
theorem dX9_issue_91 : decode cX9_issue 91 = .ok (.aload_n 0, 1) := by decide +kernel
theorem dX9_issue_92 : decode cX9_issue 92 = .ok (.getfield 31, 3) := by decide +kernel
theorem dX9_issue_95 : decode cX9_issue 95 = .ok (.invokevirtual 58, 3) := by decide +kernel
theorem dX9_issue_98 : decode cX9_issue 98 = .ok (.aload_n 3, 1) := by decide +kernel
theorem dX9_issue_99 : decode cX9_issue 99 = .ok (.aload 4, 2) := by decide +kernel
theorem dX9_issue_101 : decode cX9_issue 101 = .ok (.aload 5, 2) := by decide +kernel
theorem dX9_issue_103 : decode cX9_issue 103 = .ok (.invokespecial 308, 3) := by decide +kernel
theorem dX9_issue_106 : decode cX9_issue 106 = .ok (.invokevirtual 72, 3) := by decide +kernel
theorem dX9_issue_109 : decode cX9_issue 109 = .ok (.pop, 1) := by decide +kernel
theorem dX9_issue_110 : decode cX9_issue 110 = .ok (.aload_n 0, 1) := by decide +kernel
theorem dX9_issue_111 : decode cX9_issue 111 = .ok (.getfield 31, 3) := by decide +kernel
theorem dX9_issue_114 : decode cX9_issue 114 = .ok (.invokevirtual 58, 3) := by decide +kernel
theorem dX9_issue_117 : decode cX9_issue 117 = .ok (.iconst 1, 1) := by decide +kernel
theorem dX9_issue_118 : decode cX9_issue 118 = .ok (.isub, 1) := by decide +kernel
theorem dX9_issue_119 : decode cX9_issue 119 = .ok (.ireturn, 1) := by decide +kernel
theorem dX9_doesStand_0 : decode cX9_doesStand 0 = .ok (.iload_n 1, 1) := by decide +kernel
theorem dX9_doesStand_1 : decode cX9_doesStand 1 = .ok (.ifCond .lt 14, 3) := by decide +kernel
theorem dX9_doesStand_4 : decode cX9_doesStand 4 = .ok (.iload_n 1, 1) := by decide +kernel
theorem dX9_doesStand_5 : decode cX9_doesStand 5 = .ok (.aload_n 0, 1) := by decide +kernel
theorem dX9_doesStand_6 : decode cX9_doesStand 6 = .ok (.getfield 31, 3) := by decide +kernel
theorem dX9_doesStand_9 : decode cX9_doesStand 9 = .ok (.invokevirtual 58, 3) := by decide +kernel
theorem dX9_doesStand_12 : decode cX9_doesStand 12 = .ok (.if_icmp .lt 14, 3) := by decide +kernel
theorem dX9_doesStand_15 : decode cX9_doesStand 15 = .ok (.new 76, 3) := by decide +kernel
theorem dX9_doesStand_18 : decode cX9_doesStand 18 = .ok (.dup, 1) := by decide +kernel
theorem dX9_doesStand_19 : decode cX9_doesStand 19 = .ok (.ldc_w 311, 3) := by decide +kernel
theorem dX9_doesStand_22 : decode cX9_doesStand 22 = .ok (.invokespecial 80, 3) := by decide +kernel
theorem dX9_doesStand_25 : decode cX9_doesStand 25 = .ok (.athrow, 1) := by decide +kernel
theorem dX9_doesStand_26 : decode cX9_doesStand 26 = .ok (.aload_n 0, 1) := by decide +kernel
theorem dX9_doesStand_27 : decode cX9_doesStand 27 = .ok (.getfield 31, 3) := by decide +kernel
theorem dX9_doesStand_30 : decode cX9_doesStand 30 = .ok (.iload_n 1, 1) := by decide +kernel
theorem dX9_doesStand_31 : decode cX9_doesStand 31 = .ok (.invokevirtual 85, 3) := by decide +kernel
theorem dX9_doesStand_34 : decode cX9_doesStand 34 = .ok (.checkcast 306, 3) := by decide +kernel
theorem dX9_doesStand_37 : decode cX9_doesStand 37 = .ok (.getfield 313, 3) := by decide +kernel
theorem dX9_doesStand_40 : decode cX9_doesStand 40 = .ok (.ireturn, 1) := by decide +kernel
theorem dX9_certificateOf_0 : decode cX9_certificateOf 0 = .ok (.aload_n 0, 1) := by decide +kernel
theorem dX9_certificateOf_1 : decode cX9_certificateOf 1 = .ok (.aload_n 0, 1) := by decide +kernel
theorem dX9_certificateOf_2 : decode cX9_certificateOf 2 = .ok (.iload_n 1, 1) := by decide +kernel
theorem dX9_certificateOf_3 : decode cX9_certificateOf 3 = .ok (.invokevirtual 154, 3) := by decide +kernel
theorem dX9_certificateOf_6 : decode cX9_certificateOf 6 = .ok (.aload_n 0, 1) := by decide +kernel
theorem dX9_certificateOf_7 : decode cX9_certificateOf 7 = .ok (.iload_n 2, 1) := by decide +kernel
theorem dX9_certificateOf_8 : decode cX9_certificateOf 8 = .ok (.invokevirtual 285, 3) := by decide +kernel
theorem dX9_certificateOf_11 : decode cX9_certificateOf 11 = .ok (.invokevirtual 289, 3) := by decide +kernel
theorem dX9_certificateOf_14 : decode cX9_certificateOf 14 = .ok (.astore_n 3, 1) := by decide +kernel
theorem dX9_certificateOf_15 : decode cX9_certificateOf 15 = .ok (.aload_n 3, 1) := by decide +kernel
theorem dX9_certificateOf_16 : decode cX9_certificateOf 16 = .ok (.ifnonnull 14, 3) := by decide +kernel
theorem dX9_certificateOf_19 : decode cX9_certificateOf 19 = .ok (.new 197, 3) := by decide +kernel
theorem dX9_certificateOf_22 : decode cX9_certificateOf 22 = .ok (.dup, 1) := by decide +kernel
theorem dX9_certificateOf_23 : decode cX9_certificateOf 23 = .ok (.ldc_w 316, 3) := by decide +kernel
theorem dX9_certificateOf_26 : decode cX9_certificateOf 26 = .ok (.invokespecial 201, 3) := by decide +kernel
theorem dX9_certificateOf_29 : decode cX9_certificateOf 29 = .ok (.athrow, 1) := by decide +kernel
theorem dX9_certificateOf_30 : decode cX9_certificateOf 30 = .ok (.aload_n 3, 1) := by decide +kernel
theorem dX9_certificateOf_31 : decode cX9_certificateOf 31 = .ok (.getfield 318, 3) := by decide +kernel
theorem dX9_certificateOf_34 : decode cX9_certificateOf 34 = .ok (.ireturn, 1) := by decide +kernel
theorem dX9_revoked_0 : decode cX9_revoked 0 = .ok (.aload_n 0, 1) := by decide +kernel
theorem dX9_revoked_1 : decode cX9_revoked 1 = .ok (.getfield 31, 3) := by decide +kernel
theorem dX9_revoked_4 : decode cX9_revoked 4 = .ok (.invokevirtual 58, 3) := by decide +kernel
theorem dX9_revoked_7 : decode cX9_revoked 7 = .ok (.aload_n 0, 1) := by decide +kernel
theorem dX9_revoked_8 : decode cX9_revoked 8 = .ok (.invokevirtual 319, 3) := by decide +kernel
theorem dX9_revoked_11 : decode cX9_revoked 11 = .ok (.isub, 1) := by decide +kernel
theorem dX9_revoked_12 : decode cX9_revoked 12 = .ok (.ireturn, 1) := by decide +kernel
theorem dX9_pass_0 : decode cX9_pass 0 = .ok (.iload_n 1, 1) := by decide +kernel
theorem dX9_pass_1 : decode cX9_pass 1 = .ok (.iconst 1, 1) := by decide +kernel
theorem dX9_pass_2 : decode cX9_pass 2 = .ok (.bipush 99, 2) := by decide +kernel
theorem dX9_pass_4 : decode cX9_pass 4 = .ok (.invokestatic 98, 3) := by decide +kernel
theorem dX9_pass_7 : decode cX9_pass 7 = .ok (.ifCond .ne 14, 3) := by decide +kernel
theorem dX9_pass_10 : decode cX9_pass 10 = .ok (.new 51, 3) := by decide +kernel
theorem dX9_pass_13 : decode cX9_pass 13 = .ok (.dup, 1) := by decide +kernel
theorem dX9_pass_14 : decode cX9_pass 14 = .ok (.ldc_w 322, 3) := by decide +kernel
theorem dX9_pass_17 : decode cX9_pass 17 = .ok (.invokespecial 55, 3) := by decide +kernel
theorem dX9_pass_20 : decode cX9_pass 20 = .ok (.athrow, 1) := by decide +kernel
theorem dX9_pass_21 : decode cX9_pass 21 = .ok (.aload_n 0, 1) := by decide +kernel
theorem dX9_pass_22 : decode cX9_pass 22 = .ok (.getfield 47, 3) := by decide +kernel
theorem dX9_pass_25 : decode cX9_pass 25 = .ok (.iload_n 1, 1) := by decide +kernel
theorem dX9_pass_26 : decode cX9_pass 26 = .ok (.iadd, 1) := by decide +kernel
theorem dX9_pass_27 : decode cX9_pass 27 = .ok (.sipush 999, 3) := by decide +kernel
theorem dX9_pass_30 : decode cX9_pass 30 = .ok (.if_icmp .le 14, 3) := by decide +kernel
theorem dX9_pass_33 : decode cX9_pass 33 = .ok (.new 62, 3) := by decide +kernel
theorem dX9_pass_36 : decode cX9_pass 36 = .ok (.dup, 1) := by decide +kernel
theorem dX9_pass_37 : decode cX9_pass 37 = .ok (.ldc_w 324, 3) := by decide +kernel
theorem dX9_pass_40 : decode cX9_pass 40 = .ok (.invokespecial 66, 3) := by decide +kernel
theorem dX9_pass_43 : decode cX9_pass 43 = .ok (.athrow, 1) := by decide +kernel
theorem dX9_pass_44 : decode cX9_pass 44 = .ok (.aload_n 0, 1) := by decide +kernel
theorem dX9_pass_45 : decode cX9_pass 45 = .ok (.dup, 1) := by decide +kernel
theorem dX9_pass_46 : decode cX9_pass 46 = .ok (.getfield 47, 3) := by decide +kernel
theorem dX9_pass_49 : decode cX9_pass 49 = .ok (.iload_n 1, 1) := by decide +kernel
theorem dX9_pass_50 : decode cX9_pass 50 = .ok (.iadd, 1) := by decide +kernel
theorem dX9_pass_51 : decode cX9_pass 51 = .ok (.putfield 47, 3) := by decide +kernel
theorem dX9_pass_54 : decode cX9_pass 54 = .ok (.aload_n 0, 1) := by decide +kernel
theorem dX9_pass_55 : decode cX9_pass 55 = .ok (.getfield 47, 3) := by decide +kernel
theorem dX9_pass_58 : decode cX9_pass 58 = .ok (.ireturn, 1) := by decide +kernel
theorem dX9_today_0 : decode cX9_today 0 = .ok (.aload_n 0, 1) := by decide +kernel
theorem dX9_today_1 : decode cX9_today 1 = .ok (.getfield 47, 3) := by decide +kernel
theorem dX9_today_4 : decode cX9_today 4 = .ok (.ireturn, 1) := by decide +kernel
theorem dX9_meanGrade_0 : decode cX9_meanGrade 0 = .ok (.aload_n 0, 1) := by decide +kernel
theorem dX9_meanGrade_1 : decode cX9_meanGrade 1 = .ok (.getfield 25, 3) := by decide +kernel
theorem dX9_meanGrade_4 : decode cX9_meanGrade 4 = .ok (.invokevirtual 58, 3) := by decide +kernel
theorem dX9_meanGrade_7 : decode cX9_meanGrade 7 = .ok (.istore_n 1, 1) := by decide +kernel
theorem dX9_meanGrade_8 : decode cX9_meanGrade 8 = .ok (.iload_n 1, 1) := by decide +kernel
theorem dX9_meanGrade_9 : decode cX9_meanGrade 9 = .ok (.ifCond .ne 14, 3) := by decide +kernel
theorem dX9_meanGrade_12 : decode cX9_meanGrade 12 = .ok (.new 326, 3) := by decide +kernel
theorem dX9_meanGrade_15 : decode cX9_meanGrade 15 = .ok (.dup, 1) := by decide +kernel
theorem dX9_meanGrade_16 : decode cX9_meanGrade 16 = .ok (.ldc_w 328, 3) := by decide +kernel
theorem dX9_meanGrade_19 : decode cX9_meanGrade 19 = .ok (.invokespecial 330, 3) := by decide +kernel
theorem dX9_meanGrade_22 : decode cX9_meanGrade 22 = .ok (.athrow, 1) := by decide +kernel
theorem dX9_meanGrade_23 : decode cX9_meanGrade 23 = .ok (.iconst 0, 1) := by decide +kernel
theorem dX9_meanGrade_24 : decode cX9_meanGrade 24 = .ok (.istore_n 2, 1) := by decide +kernel
theorem dX9_meanGrade_25 : decode cX9_meanGrade 25 = .ok (.iconst 0, 1) := by decide +kernel
theorem dX9_meanGrade_26 : decode cX9_meanGrade 26 = .ok (.istore_n 3, 1) := by decide +kernel
theorem dX9_meanGrade_27 : decode cX9_meanGrade 27 = .ok (.iload_n 3, 1) := by decide +kernel
theorem dX9_meanGrade_28 : decode cX9_meanGrade 28 = .ok (.iload_n 1, 1) := by decide +kernel
theorem dX9_meanGrade_29 : decode cX9_meanGrade 29 = .ok (.if_icmp .ge 26, 3) := by decide +kernel
theorem dX9_meanGrade_32 : decode cX9_meanGrade 32 = .ok (.iload_n 2, 1) := by decide +kernel
theorem dX9_meanGrade_33 : decode cX9_meanGrade 33 = .ok (.aload_n 0, 1) := by decide +kernel
theorem dX9_meanGrade_34 : decode cX9_meanGrade 34 = .ok (.getfield 25, 3) := by decide +kernel
theorem dX9_meanGrade_37 : decode cX9_meanGrade 37 = .ok (.iload_n 3, 1) := by decide +kernel
theorem dX9_meanGrade_38 : decode cX9_meanGrade 38 = .ok (.invokevirtual 85, 3) := by decide +kernel
theorem dX9_meanGrade_41 : decode cX9_meanGrade 41 = .ok (.checkcast 177, 3) := by decide +kernel
theorem dX9_meanGrade_44 : decode cX9_meanGrade 44 = .ok (.getfield 185, 3) := by decide +kernel
theorem dX9_meanGrade_47 : decode cX9_meanGrade 47 = .ok (.iadd, 1) := by decide +kernel
theorem dX9_meanGrade_48 : decode cX9_meanGrade 48 = .ok (.istore_n 2, 1) := by decide +kernel
theorem dX9_meanGrade_49 : decode cX9_meanGrade 49 = .ok (.iinc 3 1, 3) := by decide +kernel
theorem dX9_meanGrade_52 : decode cX9_meanGrade 52 = .ok (.goto (-25), 3) := by decide +kernel
theorem dX9_meanGrade_55 : decode cX9_meanGrade 55 = .ok (.iload_n 2, 1) := by decide +kernel
theorem dX9_meanGrade_56 : decode cX9_meanGrade 56 = .ok (.i2d, 1) := by decide +kernel
theorem dX9_meanGrade_57 : decode cX9_meanGrade 57 = .ok (.iload_n 1, 1) := by decide +kernel
theorem dX9_meanGrade_58 : decode cX9_meanGrade 58 = .ok (.i2d, 1) := by decide +kernel
theorem dX9_meanGrade_59 : decode cX9_meanGrade 59 = .ok (.ddiv, 1) := by decide +kernel
theorem dX9_meanGrade_60 : decode cX9_meanGrade 60 = .ok (.dreturn, 1) := by decide +kernel
theorem dX9_standingShare_0 : decode cX9_standingShare 0 = .ok (.aload_n 0, 1) := by decide +kernel
theorem dX9_standingShare_1 : decode cX9_standingShare 1 = .ok (.getfield 31, 3) := by decide +kernel
theorem dX9_standingShare_4 : decode cX9_standingShare 4 = .ok (.invokevirtual 58, 3) := by decide +kernel
theorem dX9_standingShare_7 : decode cX9_standingShare 7 = .ok (.istore_n 1, 1) := by decide +kernel
theorem dX9_standingShare_8 : decode cX9_standingShare 8 = .ok (.iload_n 1, 1) := by decide +kernel
theorem dX9_standingShare_9 : decode cX9_standingShare 9 = .ok (.ifCond .ne 14, 3) := by decide +kernel
theorem dX9_standingShare_12 : decode cX9_standingShare 12 = .ok (.new 326, 3) := by decide +kernel
theorem dX9_standingShare_15 : decode cX9_standingShare 15 = .ok (.dup, 1) := by decide +kernel
theorem dX9_standingShare_16 : decode cX9_standingShare 16 = .ok (.ldc_w 331, 3) := by decide +kernel
theorem dX9_standingShare_19 : decode cX9_standingShare 19 = .ok (.invokespecial 330, 3) := by decide +kernel
theorem dX9_standingShare_22 : decode cX9_standingShare 22 = .ok (.athrow, 1) := by decide +kernel
theorem dX9_standingShare_23 : decode cX9_standingShare 23 = .ok (.aload_n 0, 1) := by decide +kernel
theorem dX9_standingShare_24 : decode cX9_standingShare 24 = .ok (.invokevirtual 319, 3) := by decide +kernel
theorem dX9_standingShare_27 : decode cX9_standingShare 27 = .ok (.i2f, 1) := by decide +kernel
theorem dX9_standingShare_28 : decode cX9_standingShare 28 = .ok (.iload_n 1, 1) := by decide +kernel
theorem dX9_standingShare_29 : decode cX9_standingShare 29 = .ok (.i2f, 1) := by decide +kernel
theorem dX9_standingShare_30 : decode cX9_standingShare 30 = .ok (.fdiv, 1) := by decide +kernel
theorem dX9_standingShare_31 : decode cX9_standingShare 31 = .ok (.freturn, 1) := by decide +kernel
theorem dX9_isConsistent_0 : decode cX9_isConsistent 0 = .ok (.iconst 0, 1) := by decide +kernel
theorem dX9_isConsistent_1 : decode cX9_isConsistent 1 = .ok (.istore_n 1, 1) := by decide +kernel
theorem dX9_isConsistent_2 : decode cX9_isConsistent 2 = .ok (.iload_n 1, 1) := by decide +kernel
theorem dX9_isConsistent_3 : decode cX9_isConsistent 3 = .ok (.aload_n 0, 1) := by decide +kernel
theorem dX9_isConsistent_4 : decode cX9_isConsistent 4 = .ok (.getfield 25, 3) := by decide +kernel
theorem dX9_isConsistent_7 : decode cX9_isConsistent 7 = .ok (.invokevirtual 58, 3) := by decide +kernel
theorem dX9_isConsistent_10 : decode cX9_isConsistent 10 = .ok (.if_icmp .ge 42, 3) := by decide +kernel
theorem dX9_isConsistent_13 : decode cX9_isConsistent 13 = .ok (.aload_n 0, 1) := by decide +kernel
theorem dX9_isConsistent_14 : decode cX9_isConsistent 14 = .ok (.getfield 25, 3) := by decide +kernel
theorem dX9_isConsistent_17 : decode cX9_isConsistent 17 = .ok (.iload_n 1, 1) := by decide +kernel
theorem dX9_isConsistent_18 : decode cX9_isConsistent 18 = .ok (.invokevirtual 85, 3) := by decide +kernel
theorem dX9_isConsistent_21 : decode cX9_isConsistent 21 = .ok (.checkcast 177, 3) := by decide +kernel
theorem dX9_isConsistent_24 : decode cX9_isConsistent 24 = .ok (.getfield 185, 3) := by decide +kernel
theorem dX9_isConsistent_27 : decode cX9_isConsistent 27 = .ok (.aload_n 0, 1) := by decide +kernel
theorem dX9_isConsistent_28 : decode cX9_isConsistent 28 = .ok (.getfield 25, 3) := by decide +kernel
theorem dX9_isConsistent_31 : decode cX9_isConsistent 31 = .ok (.iload_n 1, 1) := by decide +kernel
theorem dX9_isConsistent_32 : decode cX9_isConsistent 32 = .ok (.invokevirtual 85, 3) := by decide +kernel
theorem dX9_isConsistent_35 : decode cX9_isConsistent 35 = .ok (.checkcast 177, 3) := by decide +kernel
theorem dX9_isConsistent_38 : decode cX9_isConsistent 38 = .ok (.invokevirtual 182, 3) := by decide +kernel
theorem dX9_isConsistent_41 : decode cX9_isConsistent 41 = .ok (.if_icmp .eq 5, 3) := by decide +kernel
theorem dX9_isConsistent_44 : decode cX9_isConsistent 44 = .ok (.iconst 0, 1) := by decide +kernel
theorem dX9_isConsistent_45 : decode cX9_isConsistent 45 = .ok (.ireturn, 1) := by decide +kernel
theorem dX9_isConsistent_46 : decode cX9_isConsistent 46 = .ok (.iinc 1 1, 3) := by decide +kernel
theorem dX9_isConsistent_49 : decode cX9_isConsistent 49 = .ok (.goto (-47), 3) := by decide +kernel
theorem dX9_isConsistent_52 : decode cX9_isConsistent 52 = .ok (.aload_n 0, 1) := by decide +kernel
theorem dX9_isConsistent_53 : decode cX9_isConsistent 53 = .ok (.invokevirtual 158, 3) := by decide +kernel
theorem dX9_isConsistent_56 : decode cX9_isConsistent 56 = .ok (.astore_n 1, 1) := by decide +kernel
theorem dX9_isConsistent_57 : decode cX9_isConsistent 57 = .ok (.iconst 0, 1) := by decide +kernel
theorem dX9_isConsistent_58 : decode cX9_isConsistent 58 = .ok (.istore_n 2, 1) := by decide +kernel
theorem dX9_isConsistent_59 : decode cX9_isConsistent 59 = .ok (.iload_n 2, 1) := by decide +kernel
theorem dX9_isConsistent_60 : decode cX9_isConsistent 60 = .ok (.aload_n 0, 1) := by decide +kernel
theorem dX9_isConsistent_61 : decode cX9_isConsistent 61 = .ok (.getfield 16, 3) := by decide +kernel
theorem dX9_isConsistent_64 : decode cX9_isConsistent 64 = .ok (.invokevirtual 58, 3) := by decide +kernel
theorem dX9_isConsistent_67 : decode cX9_isConsistent 67 = .ok (.if_icmp .ge 75, 3) := by decide +kernel
theorem dX9_isConsistent_70 : decode cX9_isConsistent 70 = .ok (.iconst 0, 1) := by decide +kernel
theorem dX9_isConsistent_71 : decode cX9_isConsistent 71 = .ok (.istore_n 3, 1) := by decide +kernel
theorem dX9_isConsistent_72 : decode cX9_isConsistent 72 = .ok (.iload_n 3, 1) := by decide +kernel
theorem dX9_isConsistent_73 : decode cX9_isConsistent 73 = .ok (.aload_n 0, 1) := by decide +kernel
theorem dX9_isConsistent_74 : decode cX9_isConsistent 74 = .ok (.getfield 19, 3) := by decide +kernel
theorem dX9_isConsistent_77 : decode cX9_isConsistent 77 = .ok (.invokevirtual 58, 3) := by decide +kernel
theorem dX9_isConsistent_80 : decode cX9_isConsistent 80 = .ok (.if_icmp .ge 56, 3) := by decide +kernel
theorem dX9_isConsistent_83 : decode cX9_isConsistent 83 = .ok (.aload_n 0, 1) := by decide +kernel
theorem dX9_isConsistent_84 : decode cX9_isConsistent 84 = .ok (.getfield 16, 3) := by decide +kernel
theorem dX9_isConsistent_87 : decode cX9_isConsistent 87 = .ok (.iload_n 2, 1) := by decide +kernel
theorem dX9_isConsistent_88 : decode cX9_isConsistent 88 = .ok (.invokevirtual 85, 3) := by decide +kernel
theorem dX9_isConsistent_91 : decode cX9_isConsistent 91 = .ok (.checkcast 83, 3) := by decide +kernel
theorem dX9_isConsistent_94 : decode cX9_isConsistent 94 = .ok (.astore 4, 2) := by decide +kernel
theorem dX9_isConsistent_96 : decode cX9_isConsistent 96 = .ok (.aload_n 0, 1) := by decide +kernel
theorem dX9_isConsistent_97 : decode cX9_isConsistent 97 = .ok (.getfield 19, 3) := by decide +kernel
theorem dX9_isConsistent_100 : decode cX9_isConsistent 100 = .ok (.iload_n 3, 1) := by decide +kernel
theorem dX9_isConsistent_101 : decode cX9_isConsistent 101 = .ok (.invokevirtual 85, 3) := by decide +kernel
theorem dX9_isConsistent_104 : decode cX9_isConsistent 104 = .ok (.checkcast 106, 3) := by decide +kernel
theorem dX9_isConsistent_107 : decode cX9_isConsistent 107 = .ok (.astore 5, 2) := by decide +kernel
theorem dX9_isConsistent_109 : decode cX9_isConsistent 109 = .ok (.aload 5, 2) := by decide +kernel
theorem dX9_isConsistent_111 : decode cX9_isConsistent 111 = .ok (.aload 4, 2) := by decide +kernel
theorem dX9_isConsistent_113 : decode cX9_isConsistent 113 = .ok (.aload_n 1, 1) := by decide +kernel
theorem dX9_isConsistent_114 : decode cX9_isConsistent 114 = .ok (.invokevirtual 222, 3) := by decide +kernel
theorem dX9_isConsistent_117 : decode cX9_isConsistent 117 = .ok (.aload_n 0, 1) := by decide +kernel
theorem dX9_isConsistent_118 : decode cX9_isConsistent 118 = .ok (.aload 4, 2) := by decide +kernel
theorem dX9_isConsistent_120 : decode cX9_isConsistent 120 = .ok (.aload 5, 2) := by decide +kernel
theorem dX9_isConsistent_122 : decode cX9_isConsistent 122 = .ok (.invokevirtual 226, 3) := by decide +kernel
theorem dX9_isConsistent_125 : decode cX9_isConsistent 125 = .ok (.if_icmp .eq 5, 3) := by decide +kernel
theorem dX9_isConsistent_128 : decode cX9_isConsistent 128 = .ok (.iconst 0, 1) := by decide +kernel
theorem dX9_isConsistent_129 : decode cX9_isConsistent 129 = .ok (.ireturn, 1) := by decide +kernel
theorem dX9_isConsistent_130 : decode cX9_isConsistent 130 = .ok (.iinc 3 1, 3) := by decide +kernel
theorem dX9_isConsistent_133 : decode cX9_isConsistent 133 = .ok (.goto (-61), 3) := by decide +kernel
theorem dX9_isConsistent_136 : decode cX9_isConsistent 136 = .ok (.iinc 2 1, 3) := by decide +kernel
theorem dX9_isConsistent_139 : decode cX9_isConsistent 139 = .ok (.goto (-80), 3) := by decide +kernel
theorem dX9_isConsistent_142 : decode cX9_isConsistent 142 = .ok (.iconst 1, 1) := by decide +kernel
theorem dX9_isConsistent_143 : decode cX9_isConsistent 143 = .ok (.ireturn, 1) := by decide +kernel
theorem dX9_writeAnswer_0 : decode cX9_writeAnswer 0 = .ok (.aload_n 0, 1) := by decide +kernel
theorem dX9_writeAnswer_1 : decode cX9_writeAnswer 1 = .ok (.iload_n 1, 1) := by decide +kernel
theorem dX9_writeAnswer_2 : decode cX9_writeAnswer 2 = .ok (.invokevirtual 189, 3) := by decide +kernel
theorem dX9_writeAnswer_5 : decode cX9_writeAnswer 5 = .ok (.astore_n 2, 1) := by decide +kernel
theorem dX9_writeAnswer_6 : decode cX9_writeAnswer 6 = .ok (.aload_n 0, 1) := by decide +kernel
theorem dX9_writeAnswer_7 : decode cX9_writeAnswer 7 = .ok (.getfield 43, 3) := by decide +kernel
theorem dX9_writeAnswer_10 : decode cX9_writeAnswer 10 = .ok (.iconst 0, 1) := by decide +kernel
theorem dX9_writeAnswer_11 : decode cX9_writeAnswer 11 = .ok (.invokevirtual 333, 3) := by decide +kernel
theorem dX9_writeAnswer_14 : decode cX9_writeAnswer 14 = .ok (.aload_n 0, 1) := by decide +kernel
theorem dX9_writeAnswer_15 : decode cX9_writeAnswer 15 = .ok (.getfield 43, 3) := by decide +kernel
theorem dX9_writeAnswer_18 : decode cX9_writeAnswer 18 = .ok (.ldc_w 337, 3) := by decide +kernel
theorem dX9_writeAnswer_21 : decode cX9_writeAnswer 21 = .ok (.invokevirtual 339, 3) := by decide +kernel
theorem dX9_writeAnswer_24 : decode cX9_writeAnswer 24 = .ok (.aload_n 2, 1) := by decide +kernel
theorem dX9_writeAnswer_25 : decode cX9_writeAnswer 25 = .ok (.getfield 188, 3) := by decide +kernel
theorem dX9_writeAnswer_28 : decode cX9_writeAnswer 28 = .ok (.invokevirtual 343, 3) := by decide +kernel
theorem dX9_writeAnswer_31 : decode cX9_writeAnswer 31 = .ok (.ldc_w 346, 3) := by decide +kernel
theorem dX9_writeAnswer_34 : decode cX9_writeAnswer 34 = .ok (.invokevirtual 339, 3) := by decide +kernel
theorem dX9_writeAnswer_37 : decode cX9_writeAnswer 37 = .ok (.aload_n 2, 1) := by decide +kernel
theorem dX9_writeAnswer_38 : decode cX9_writeAnswer 38 = .ok (.getfield 185, 3) := by decide +kernel
theorem dX9_writeAnswer_41 : decode cX9_writeAnswer 41 = .ok (.invokevirtual 343, 3) := by decide +kernel
theorem dX9_writeAnswer_44 : decode cX9_writeAnswer 44 = .ok (.pop, 1) := by decide +kernel
theorem dX9_writeAnswer_45 : decode cX9_writeAnswer 45 = .ok (.aload_n 0, 1) := by decide +kernel
theorem dX9_writeAnswer_46 : decode cX9_writeAnswer 46 = .ok (.getfield 43, 3) := by decide +kernel
theorem dX9_writeAnswer_49 : decode cX9_writeAnswer 49 = .ok (.aload_n 2, 1) := by decide +kernel
theorem dX9_writeAnswer_50 : decode cX9_writeAnswer 50 = .ok (.getfield 185, 3) := by decide +kernel
theorem dX9_writeAnswer_53 : decode cX9_writeAnswer 53 = .ok (.bipush 50, 2) := by decide +kernel
theorem dX9_writeAnswer_55 : decode cX9_writeAnswer 55 = .ok (.if_icmp .lt 9, 3) := by decide +kernel
theorem dX9_writeAnswer_58 : decode cX9_writeAnswer 58 = .ok (.ldc_w 348, 3) := by decide +kernel
theorem dX9_writeAnswer_61 : decode cX9_writeAnswer 61 = .ok (.goto 6, 3) := by decide +kernel
theorem dX9_writeAnswer_64 : decode cX9_writeAnswer 64 = .ok (.ldc_w 350, 3) := by decide +kernel
theorem dX9_writeAnswer_67 : decode cX9_writeAnswer 67 = .ok (.invokevirtual 339, 3) := by decide +kernel
theorem dX9_writeAnswer_70 : decode cX9_writeAnswer 70 = .ok (.pop, 1) := by decide +kernel
theorem dX9_writeAnswer_71 : decode cX9_writeAnswer 71 = .ok (.aload_n 2, 1) := by decide +kernel
theorem dX9_writeAnswer_72 : decode cX9_writeAnswer 72 = .ok (.getfield 251, 3) := by decide +kernel
theorem dX9_writeAnswer_75 : decode cX9_writeAnswer 75 = .ok (.ifCond .le 21, 3) := by decide +kernel
theorem dX9_writeAnswer_78 : decode cX9_writeAnswer 78 = .ok (.aload_n 0, 1) := by decide +kernel
theorem dX9_writeAnswer_79 : decode cX9_writeAnswer 79 = .ok (.getfield 43, 3) := by decide +kernel
theorem dX9_writeAnswer_82 : decode cX9_writeAnswer 82 = .ok (.ldc_w 352, 3) := by decide +kernel
theorem dX9_writeAnswer_85 : decode cX9_writeAnswer 85 = .ok (.invokevirtual 339, 3) := by decide +kernel
theorem dX9_writeAnswer_88 : decode cX9_writeAnswer 88 = .ok (.aload_n 2, 1) := by decide +kernel
theorem dX9_writeAnswer_89 : decode cX9_writeAnswer 89 = .ok (.getfield 251, 3) := by decide +kernel
theorem dX9_writeAnswer_92 : decode cX9_writeAnswer 92 = .ok (.invokevirtual 343, 3) := by decide +kernel
theorem dX9_writeAnswer_95 : decode cX9_writeAnswer 95 = .ok (.pop, 1) := by decide +kernel
theorem dX9_writeAnswer_96 : decode cX9_writeAnswer 96 = .ok (.aload_n 0, 1) := by decide +kernel
theorem dX9_writeAnswer_97 : decode cX9_writeAnswer 97 = .ok (.getfield 43, 3) := by decide +kernel
theorem dX9_writeAnswer_100 : decode cX9_writeAnswer 100 = .ok (.invokevirtual 354, 3) := by decide +kernel
theorem dX9_writeAnswer_103 : decode cX9_writeAnswer 103 = .ok (.ireturn, 1) := by decide +kernel
theorem dX9_lineAt_0 : decode cX9_lineAt 0 = .ok (.iload_n 1, 1) := by decide +kernel
theorem dX9_lineAt_1 : decode cX9_lineAt 1 = .ok (.ifCond .lt 14, 3) := by decide +kernel
theorem dX9_lineAt_4 : decode cX9_lineAt 4 = .ok (.iload_n 1, 1) := by decide +kernel
theorem dX9_lineAt_5 : decode cX9_lineAt 5 = .ok (.aload_n 0, 1) := by decide +kernel
theorem dX9_lineAt_6 : decode cX9_lineAt 6 = .ok (.getfield 43, 3) := by decide +kernel
theorem dX9_lineAt_9 : decode cX9_lineAt 9 = .ok (.invokevirtual 354, 3) := by decide +kernel
theorem dX9_lineAt_12 : decode cX9_lineAt 12 = .ok (.if_icmp .lt 14, 3) := by decide +kernel
theorem dX9_lineAt_15 : decode cX9_lineAt 15 = .ok (.new 76, 3) := by decide +kernel
theorem dX9_lineAt_18 : decode cX9_lineAt 18 = .ok (.dup, 1) := by decide +kernel
theorem dX9_lineAt_19 : decode cX9_lineAt 19 = .ok (.ldc_w 357, 3) := by decide +kernel
theorem dX9_lineAt_22 : decode cX9_lineAt 22 = .ok (.invokespecial 80, 3) := by decide +kernel
theorem dX9_lineAt_25 : decode cX9_lineAt 25 = .ok (.athrow, 1) := by decide +kernel
theorem dX9_lineAt_26 : decode cX9_lineAt 26 = .ok (.aload_n 0, 1) := by decide +kernel
theorem dX9_lineAt_27 : decode cX9_lineAt 27 = .ok (.getfield 43, 3) := by decide +kernel
theorem dX9_lineAt_30 : decode cX9_lineAt 30 = .ok (.iload_n 1, 1) := by decide +kernel
theorem dX9_lineAt_31 : decode cX9_lineAt 31 = .ok (.invokevirtual 359, 3) := by decide +kernel
theorem dX9_lineAt_34 : decode cX9_lineAt 34 = .ok (.ireturn, 1) := by decide +kernel
theorem dX9_isWithin_0 : decode cX9_isWithin 0 = .ok (.iload_n 0, 1) := by decide +kernel
theorem dX9_isWithin_1 : decode cX9_isWithin 1 = .ok (.iload_n 1, 1) := by decide +kernel
theorem dX9_isWithin_2 : decode cX9_isWithin 2 = .ok (.if_icmp .lt 12, 3) := by decide +kernel
theorem dX9_isWithin_5 : decode cX9_isWithin 5 = .ok (.iload_n 0, 1) := by decide +kernel
theorem dX9_isWithin_6 : decode cX9_isWithin 6 = .ok (.iload_n 2, 1) := by decide +kernel
theorem dX9_isWithin_7 : decode cX9_isWithin 7 = .ok (.if_icmp .gt 7, 3) := by decide +kernel
theorem dX9_isWithin_10 : decode cX9_isWithin 10 = .ok (.iconst 1, 1) := by decide +kernel
theorem dX9_isWithin_11 : decode cX9_isWithin 11 = .ok (.goto 4, 3) := by decide +kernel
theorem dX9_isWithin_14 : decode cX9_isWithin 14 = .ok (.iconst 0, 1) := by decide +kernel
theorem dX9_isWithin_15 : decode cX9_isWithin 15 = .ok (.ireturn, 1) := by decide +kernel
theorem dX9_requireRule_0 : decode cX9_requireRule 0 = .ok (.iload_n 0, 1) := by decide +kernel
theorem dX9_requireRule_1 : decode cX9_requireRule 1 = .ok (.bipush (-9), 2) := by decide +kernel
theorem dX9_requireRule_3 : decode cX9_requireRule 3 = .ok (.bipush 9, 2) := by decide +kernel
theorem dX9_requireRule_5 : decode cX9_requireRule 5 = .ok (.invokestatic 98, 3) := by decide +kernel
theorem dX9_requireRule_8 : decode cX9_requireRule 8 = .ok (.ifCond .eq 14, 3) := by decide +kernel
theorem dX9_requireRule_11 : decode cX9_requireRule 11 = .ok (.iload_n 1, 1) := by decide +kernel
theorem dX9_requireRule_12 : decode cX9_requireRule 12 = .ok (.bipush (-99), 2) := by decide +kernel
theorem dX9_requireRule_14 : decode cX9_requireRule 14 = .ok (.bipush 99, 2) := by decide +kernel
theorem dX9_requireRule_16 : decode cX9_requireRule 16 = .ok (.invokestatic 98, 3) := by decide +kernel
theorem dX9_requireRule_19 : decode cX9_requireRule 19 = .ok (.ifCond .ne 14, 3) := by decide +kernel
theorem dX9_requireRule_22 : decode cX9_requireRule 22 = .ok (.new 51, 3) := by decide +kernel
theorem dX9_requireRule_25 : decode cX9_requireRule 25 = .ok (.dup, 1) := by decide +kernel
theorem dX9_requireRule_26 : decode cX9_requireRule 26 = .ok (.ldc_w 363, 3) := by decide +kernel
theorem dX9_requireRule_29 : decode cX9_requireRule 29 = .ok (.invokespecial 55, 3) := by decide +kernel
theorem dX9_requireRule_32 : decode cX9_requireRule 32 = .ok (.athrow, 1) := by decide +kernel
theorem dX9_requireRule_33 : decode cX9_requireRule 33 = .ok (.return_, 1) := by decide +kernel
theorem dX9_areLessons_0 : decode cX9_areLessons 0 = .ok (.iload_n 1, 1) := by decide +kernel
theorem dX9_areLessons_1 : decode cX9_areLessons 1 = .ok (.aload_n 0, 1) := by decide +kernel
theorem dX9_areLessons_2 : decode cX9_areLessons 2 = .ok (.getfield 19, 3) := by decide +kernel
theorem dX9_areLessons_5 : decode cX9_areLessons 5 = .ok (.invokevirtual 58, 3) := by decide +kernel
theorem dX9_areLessons_8 : decode cX9_areLessons 8 = .ok (.iushr, 1) := by decide +kernel
theorem dX9_areLessons_9 : decode cX9_areLessons 9 = .ok (.ifCond .ne 7, 3) := by decide +kernel
theorem dX9_areLessons_12 : decode cX9_areLessons 12 = .ok (.iconst 1, 1) := by decide +kernel
theorem dX9_areLessons_13 : decode cX9_areLessons 13 = .ok (.goto 4, 3) := by decide +kernel
theorem dX9_areLessons_16 : decode cX9_areLessons 16 = .ok (.iconst 0, 1) := by decide +kernel
theorem dX9_areLessons_17 : decode cX9_areLessons 17 = .ok (.ireturn, 1) := by decide +kernel
theorem dX9_hasLesson_0 : decode cX9_hasLesson 0 = .ok (.iload_n 0, 1) := by decide +kernel
theorem dX9_hasLesson_1 : decode cX9_hasLesson 1 = .ok (.iload_n 1, 1) := by decide +kernel
theorem dX9_hasLesson_2 : decode cX9_hasLesson 2 = .ok (.iushr, 1) := by decide +kernel
theorem dX9_hasLesson_3 : decode cX9_hasLesson 3 = .ok (.iconst 1, 1) := by decide +kernel
theorem dX9_hasLesson_4 : decode cX9_hasLesson 4 = .ok (.iand, 1) := by decide +kernel
theorem dX9_hasLesson_5 : decode cX9_hasLesson 5 = .ok (.iconst 1, 1) := by decide +kernel
theorem dX9_hasLesson_6 : decode cX9_hasLesson 6 = .ok (.if_icmp .ne 7, 3) := by decide +kernel
theorem dX9_hasLesson_9 : decode cX9_hasLesson 9 = .ok (.iconst 1, 1) := by decide +kernel
theorem dX9_hasLesson_10 : decode cX9_hasLesson 10 = .ok (.goto 4, 3) := by decide +kernel
theorem dX9_hasLesson_13 : decode cX9_hasLesson 13 = .ok (.iconst 0, 1) := by decide +kernel
theorem dX9_hasLesson_14 : decode cX9_hasLesson 14 = .ok (.ireturn, 1) := by decide +kernel
theorem dX9_findStudent_0 : decode cX9_findStudent 0 = .ok (.iload_n 1, 1) := by decide +kernel
theorem dX9_findStudent_1 : decode cX9_findStudent 1 = .ok (.ifCond .lt 14, 3) := by decide +kernel
theorem dX9_findStudent_4 : decode cX9_findStudent 4 = .ok (.iload_n 1, 1) := by decide +kernel
theorem dX9_findStudent_5 : decode cX9_findStudent 5 = .ok (.aload_n 0, 1) := by decide +kernel
theorem dX9_findStudent_6 : decode cX9_findStudent 6 = .ok (.getfield 16, 3) := by decide +kernel
theorem dX9_findStudent_9 : decode cX9_findStudent 9 = .ok (.invokevirtual 58, 3) := by decide +kernel
theorem dX9_findStudent_12 : decode cX9_findStudent 12 = .ok (.if_icmp .lt 14, 3) := by decide +kernel
theorem dX9_findStudent_15 : decode cX9_findStudent 15 = .ok (.new 76, 3) := by decide +kernel
theorem dX9_findStudent_18 : decode cX9_findStudent 18 = .ok (.dup, 1) := by decide +kernel
theorem dX9_findStudent_19 : decode cX9_findStudent 19 = .ok (.ldc_w 365, 3) := by decide +kernel
theorem dX9_findStudent_22 : decode cX9_findStudent 22 = .ok (.invokespecial 80, 3) := by decide +kernel
theorem dX9_findStudent_25 : decode cX9_findStudent 25 = .ok (.athrow, 1) := by decide +kernel
theorem dX9_findStudent_26 : decode cX9_findStudent 26 = .ok (.aload_n 0, 1) := by decide +kernel
theorem dX9_findStudent_27 : decode cX9_findStudent 27 = .ok (.getfield 16, 3) := by decide +kernel
theorem dX9_findStudent_30 : decode cX9_findStudent 30 = .ok (.iload_n 1, 1) := by decide +kernel
theorem dX9_findStudent_31 : decode cX9_findStudent 31 = .ok (.invokevirtual 85, 3) := by decide +kernel
theorem dX9_findStudent_34 : decode cX9_findStudent 34 = .ok (.checkcast 83, 3) := by decide +kernel
theorem dX9_findStudent_37 : decode cX9_findStudent 37 = .ok (.areturn, 1) := by decide +kernel
theorem dX9_findLesson_0 : decode cX9_findLesson 0 = .ok (.iload_n 1, 1) := by decide +kernel
theorem dX9_findLesson_1 : decode cX9_findLesson 1 = .ok (.ifCond .lt 14, 3) := by decide +kernel
theorem dX9_findLesson_4 : decode cX9_findLesson 4 = .ok (.iload_n 1, 1) := by decide +kernel
theorem dX9_findLesson_5 : decode cX9_findLesson 5 = .ok (.aload_n 0, 1) := by decide +kernel
theorem dX9_findLesson_6 : decode cX9_findLesson 6 = .ok (.getfield 19, 3) := by decide +kernel
theorem dX9_findLesson_9 : decode cX9_findLesson 9 = .ok (.invokevirtual 58, 3) := by decide +kernel
theorem dX9_findLesson_12 : decode cX9_findLesson 12 = .ok (.if_icmp .lt 14, 3) := by decide +kernel
theorem dX9_findLesson_15 : decode cX9_findLesson 15 = .ok (.new 76, 3) := by decide +kernel
theorem dX9_findLesson_18 : decode cX9_findLesson 18 = .ok (.dup, 1) := by decide +kernel
theorem dX9_findLesson_19 : decode cX9_findLesson 19 = .ok (.ldc_w 367, 3) := by decide +kernel
theorem dX9_findLesson_22 : decode cX9_findLesson 22 = .ok (.invokespecial 80, 3) := by decide +kernel
theorem dX9_findLesson_25 : decode cX9_findLesson 25 = .ok (.athrow, 1) := by decide +kernel
theorem dX9_findLesson_26 : decode cX9_findLesson 26 = .ok (.aload_n 0, 1) := by decide +kernel
theorem dX9_findLesson_27 : decode cX9_findLesson 27 = .ok (.getfield 19, 3) := by decide +kernel
theorem dX9_findLesson_30 : decode cX9_findLesson 30 = .ok (.iload_n 1, 1) := by decide +kernel
theorem dX9_findLesson_31 : decode cX9_findLesson 31 = .ok (.invokevirtual 85, 3) := by decide +kernel
theorem dX9_findLesson_34 : decode cX9_findLesson 34 = .ok (.checkcast 106, 3) := by decide +kernel
theorem dX9_findLesson_37 : decode cX9_findLesson 37 = .ok (.areturn, 1) := by decide +kernel
theorem dX9_findExercise_0 : decode cX9_findExercise 0 = .ok (.iload_n 1, 1) := by decide +kernel
theorem dX9_findExercise_1 : decode cX9_findExercise 1 = .ok (.ifCond .lt 14, 3) := by decide +kernel
theorem dX9_findExercise_4 : decode cX9_findExercise 4 = .ok (.iload_n 1, 1) := by decide +kernel
theorem dX9_findExercise_5 : decode cX9_findExercise 5 = .ok (.aload_n 0, 1) := by decide +kernel
theorem dX9_findExercise_6 : decode cX9_findExercise 6 = .ok (.getfield 22, 3) := by decide +kernel
theorem dX9_findExercise_9 : decode cX9_findExercise 9 = .ok (.invokevirtual 58, 3) := by decide +kernel
theorem dX9_findExercise_12 : decode cX9_findExercise 12 = .ok (.if_icmp .lt 14, 3) := by decide +kernel
theorem dX9_findExercise_15 : decode cX9_findExercise 15 = .ok (.new 76, 3) := by decide +kernel
theorem dX9_findExercise_18 : decode cX9_findExercise 18 = .ok (.dup, 1) := by decide +kernel
theorem dX9_findExercise_19 : decode cX9_findExercise 19 = .ok (.ldc_w 369, 3) := by decide +kernel
theorem dX9_findExercise_22 : decode cX9_findExercise 22 = .ok (.invokespecial 80, 3) := by decide +kernel
theorem dX9_findExercise_25 : decode cX9_findExercise 25 = .ok (.athrow, 1) := by decide +kernel
theorem dX9_findExercise_26 : decode cX9_findExercise 26 = .ok (.aload_n 0, 1) := by decide +kernel
theorem dX9_findExercise_27 : decode cX9_findExercise 27 = .ok (.getfield 22, 3) := by decide +kernel
theorem dX9_findExercise_30 : decode cX9_findExercise 30 = .ok (.iload_n 1, 1) := by decide +kernel
theorem dX9_findExercise_31 : decode cX9_findExercise 31 = .ok (.invokevirtual 85, 3) := by decide +kernel
theorem dX9_findExercise_34 : decode cX9_findExercise 34 = .ok (.checkcast 120, 3) := by decide +kernel
theorem dX9_findExercise_37 : decode cX9_findExercise 37 = .ok (.areturn, 1) := by decide +kernel
theorem dX9_findAnswer_0 : decode cX9_findAnswer 0 = .ok (.iload_n 1, 1) := by decide +kernel
theorem dX9_findAnswer_1 : decode cX9_findAnswer 1 = .ok (.ifCond .lt 14, 3) := by decide +kernel
theorem dX9_findAnswer_4 : decode cX9_findAnswer 4 = .ok (.iload_n 1, 1) := by decide +kernel
theorem dX9_findAnswer_5 : decode cX9_findAnswer 5 = .ok (.aload_n 0, 1) := by decide +kernel
theorem dX9_findAnswer_6 : decode cX9_findAnswer 6 = .ok (.getfield 25, 3) := by decide +kernel
theorem dX9_findAnswer_9 : decode cX9_findAnswer 9 = .ok (.invokevirtual 58, 3) := by decide +kernel
theorem dX9_findAnswer_12 : decode cX9_findAnswer 12 = .ok (.if_icmp .lt 14, 3) := by decide +kernel
theorem dX9_findAnswer_15 : decode cX9_findAnswer 15 = .ok (.new 76, 3) := by decide +kernel
theorem dX9_findAnswer_18 : decode cX9_findAnswer 18 = .ok (.dup, 1) := by decide +kernel
theorem dX9_findAnswer_19 : decode cX9_findAnswer 19 = .ok (.ldc_w 371, 3) := by decide +kernel
theorem dX9_findAnswer_22 : decode cX9_findAnswer 22 = .ok (.invokespecial 80, 3) := by decide +kernel
theorem dX9_findAnswer_25 : decode cX9_findAnswer 25 = .ok (.athrow, 1) := by decide +kernel
theorem dX9_findAnswer_26 : decode cX9_findAnswer 26 = .ok (.aload_n 0, 1) := by decide +kernel
theorem dX9_findAnswer_27 : decode cX9_findAnswer 27 = .ok (.getfield 25, 3) := by decide +kernel
theorem dX9_findAnswer_30 : decode cX9_findAnswer 30 = .ok (.iload_n 1, 1) := by decide +kernel
theorem dX9_findAnswer_31 : decode cX9_findAnswer 31 = .ok (.invokevirtual 85, 3) := by decide +kernel
theorem dX9_findAnswer_34 : decode cX9_findAnswer 34 = .ok (.checkcast 177, 3) := by decide +kernel
theorem dX9_findAnswer_37 : decode cX9_findAnswer 37 = .ok (.areturn, 1) := by decide +kernel
theorem dX9_findCourse_0 : decode cX9_findCourse 0 = .ok (.iload_n 1, 1) := by decide +kernel
theorem dX9_findCourse_1 : decode cX9_findCourse 1 = .ok (.ifCond .lt 14, 3) := by decide +kernel
theorem dX9_findCourse_4 : decode cX9_findCourse 4 = .ok (.iload_n 1, 1) := by decide +kernel
theorem dX9_findCourse_5 : decode cX9_findCourse 5 = .ok (.aload_n 0, 1) := by decide +kernel
theorem dX9_findCourse_6 : decode cX9_findCourse 6 = .ok (.getfield 28, 3) := by decide +kernel
theorem dX9_findCourse_9 : decode cX9_findCourse 9 = .ok (.invokevirtual 58, 3) := by decide +kernel
theorem dX9_findCourse_12 : decode cX9_findCourse 12 = .ok (.if_icmp .lt 14, 3) := by decide +kernel
theorem dX9_findCourse_15 : decode cX9_findCourse 15 = .ok (.new 76, 3) := by decide +kernel
theorem dX9_findCourse_18 : decode cX9_findCourse 18 = .ok (.dup, 1) := by decide +kernel
theorem dX9_findCourse_19 : decode cX9_findCourse 19 = .ok (.ldc_w 373, 3) := by decide +kernel
theorem dX9_findCourse_22 : decode cX9_findCourse 22 = .ok (.invokespecial 80, 3) := by decide +kernel
theorem dX9_findCourse_25 : decode cX9_findCourse 25 = .ok (.athrow, 1) := by decide +kernel
theorem dX9_findCourse_26 : decode cX9_findCourse 26 = .ok (.aload_n 0, 1) := by decide +kernel
theorem dX9_findCourse_27 : decode cX9_findCourse 27 = .ok (.getfield 28, 3) := by decide +kernel
theorem dX9_findCourse_30 : decode cX9_findCourse 30 = .ok (.iload_n 1, 1) := by decide +kernel
theorem dX9_findCourse_31 : decode cX9_findCourse 31 = .ok (.invokevirtual 85, 3) := by decide +kernel
theorem dX9_findCourse_34 : decode cX9_findCourse 34 = .ok (.checkcast 282, 3) := by decide +kernel
theorem dX9_findCourse_37 : decode cX9_findCourse 37 = .ok (.areturn, 1) := by decide +kernel
theorem dX9_now_0 : decode cX9_now 0 = .ok (.new 375, 3) := by decide +kernel
theorem dX9_now_3 : decode cX9_now 3 = .ok (.dup, 1) := by decide +kernel
theorem dX9_now_4 : decode cX9_now 4 = .ok (.aload_n 0, 1) := by decide +kernel
theorem dX9_now_5 : decode cX9_now 5 = .ok (.getfield 47, 3) := by decide +kernel
theorem dX9_now_8 : decode cX9_now 8 = .ok (.aload_n 0, 1) := by decide +kernel
theorem dX9_now_9 : decode cX9_now 9 = .ok (.getfield 22, 3) := by decide +kernel
theorem dX9_now_12 : decode cX9_now 12 = .ok (.invokevirtual 58, 3) := by decide +kernel
theorem dX9_now_15 : decode cX9_now 15 = .ok (.aload_n 0, 1) := by decide +kernel
theorem dX9_now_16 : decode cX9_now 16 = .ok (.getfield 25, 3) := by decide +kernel
theorem dX9_now_19 : decode cX9_now 19 = .ok (.invokevirtual 58, 3) := by decide +kernel
theorem dX9_now_22 : decode cX9_now 22 = .ok (.invokespecial 377, 3) := by decide +kernel
theorem dX9_now_25 : decode cX9_now 25 = .ok (.areturn, 1) := by decide +kernel
theorem dX9_isOpen_0 : decode cX9_isOpen 0 = .ok (.aload_n 0, 1) := by decide +kernel
theorem dX9_isOpen_1 : decode cX9_isOpen 1 = .ok (.aload_n 2, 1) := by decide +kernel
theorem dX9_isOpen_2 : decode cX9_isOpen 2 = .ok (.aload_n 1, 1) := by decide +kernel
theorem dX9_isOpen_3 : decode cX9_isOpen 3 = .ok (.getfield 380, 3) := by decide +kernel
theorem dX9_isOpen_6 : decode cX9_isOpen 6 = .ok (.bipush 50, 2) := by decide +kernel
theorem dX9_isOpen_8 : decode cX9_isOpen 8 = .ok (.aload_n 3, 1) := by decide +kernel
theorem dX9_isOpen_9 : decode cX9_isOpen 9 = .ok (.invokevirtual 300, 3) := by decide +kernel
theorem dX9_isOpen_12 : decode cX9_isOpen 12 = .ok (.ireturn, 1) := by decide +kernel
theorem dX9_hasMastery_0 : decode cX9_hasMastery 0 = .ok (.iconst 0, 1) := by decide +kernel
theorem dX9_hasMastery_1 : decode cX9_hasMastery 1 = .ok (.istore 5, 2) := by decide +kernel
theorem dX9_hasMastery_3 : decode cX9_hasMastery 3 = .ok (.iload 5, 2) := by decide +kernel
theorem dX9_hasMastery_5 : decode cX9_hasMastery 5 = .ok (.aload_n 0, 1) := by decide +kernel
theorem dX9_hasMastery_6 : decode cX9_hasMastery 6 = .ok (.getfield 19, 3) := by decide +kernel
theorem dX9_hasMastery_9 : decode cX9_hasMastery 9 = .ok (.invokevirtual 58, 3) := by decide +kernel
theorem dX9_hasMastery_12 : decode cX9_hasMastery 12 = .ok (.if_icmp .ge 42, 3) := by decide +kernel
theorem dX9_hasMastery_15 : decode cX9_hasMastery 15 = .ok (.iload_n 2, 1) := by decide +kernel
theorem dX9_hasMastery_16 : decode cX9_hasMastery 16 = .ok (.iload 5, 2) := by decide +kernel
theorem dX9_hasMastery_18 : decode cX9_hasMastery 18 = .ok (.invokestatic 383, 3) := by decide +kernel
theorem dX9_hasMastery_21 : decode cX9_hasMastery 21 = .ok (.ifCond .eq 27, 3) := by decide +kernel
theorem dX9_hasMastery_24 : decode cX9_hasMastery 24 = .ok (.aload_n 0, 1) := by decide +kernel
theorem dX9_hasMastery_25 : decode cX9_hasMastery 25 = .ok (.getfield 19, 3) := by decide +kernel
theorem dX9_hasMastery_28 : decode cX9_hasMastery 28 = .ok (.iload 5, 2) := by decide +kernel
theorem dX9_hasMastery_30 : decode cX9_hasMastery 30 = .ok (.invokevirtual 85, 3) := by decide +kernel
theorem dX9_hasMastery_33 : decode cX9_hasMastery 33 = .ok (.checkcast 106, 3) := by decide +kernel
theorem dX9_hasMastery_36 : decode cX9_hasMastery 36 = .ok (.aload_n 1, 1) := by decide +kernel
theorem dX9_hasMastery_37 : decode cX9_hasMastery 37 = .ok (.aload 4, 2) := by decide +kernel
theorem dX9_hasMastery_39 : decode cX9_hasMastery 39 = .ok (.invokevirtual 222, 3) := by decide +kernel
theorem dX9_hasMastery_42 : decode cX9_hasMastery 42 = .ok (.iload_n 3, 1) := by decide +kernel
theorem dX9_hasMastery_43 : decode cX9_hasMastery 43 = .ok (.if_icmp .ge 5, 3) := by decide +kernel
theorem dX9_hasMastery_46 : decode cX9_hasMastery 46 = .ok (.iconst 0, 1) := by decide +kernel
theorem dX9_hasMastery_47 : decode cX9_hasMastery 47 = .ok (.ireturn, 1) := by decide +kernel
theorem dX9_hasMastery_48 : decode cX9_hasMastery 48 = .ok (.iinc 5 1, 3) := by decide +kernel
theorem dX9_hasMastery_51 : decode cX9_hasMastery 51 = .ok (.goto (-48), 3) := by decide +kernel
theorem dX9_hasMastery_54 : decode cX9_hasMastery 54 = .ok (.iconst 1, 1) := by decide +kernel
theorem dX9_hasMastery_55 : decode cX9_hasMastery 55 = .ok (.ireturn, 1) := by decide +kernel
theorem dX9_reasonAgainst_0 : decode cX9_reasonAgainst 0 = .ok (.aload_n 0, 1) := by decide +kernel
theorem dX9_reasonAgainst_1 : decode cX9_reasonAgainst 1 = .ok (.getfield 47, 3) := by decide +kernel
theorem dX9_reasonAgainst_4 : decode cX9_reasonAgainst 4 = .ok (.aload_n 1, 1) := by decide +kernel
theorem dX9_reasonAgainst_5 : decode cX9_reasonAgainst 5 = .ok (.getfield 387, 3) := by decide +kernel
theorem dX9_reasonAgainst_8 : decode cX9_reasonAgainst 8 = .ok (.getfield 391, 3) := by decide +kernel
theorem dX9_reasonAgainst_11 : decode cX9_reasonAgainst 11 = .ok (.aload_n 1, 1) := by decide +kernel
theorem dX9_reasonAgainst_12 : decode cX9_reasonAgainst 12 = .ok (.getfield 387, 3) := by decide +kernel
theorem dX9_reasonAgainst_15 : decode cX9_reasonAgainst 15 = .ok (.getfield 394, 3) := by decide +kernel
theorem dX9_reasonAgainst_18 : decode cX9_reasonAgainst 18 = .ok (.invokestatic 98, 3) := by decide +kernel
theorem dX9_reasonAgainst_21 : decode cX9_reasonAgainst 21 = .ok (.ifCond .ne 6, 3) := by decide +kernel
theorem dX9_reasonAgainst_24 : decode cX9_reasonAgainst 24 = .ok (.bipush 100, 2) := by decide +kernel
theorem dX9_reasonAgainst_26 : decode cX9_reasonAgainst 26 = .ok (.ireturn, 1) := by decide +kernel
theorem dX9_reasonAgainst_27 : decode cX9_reasonAgainst 27 = .ok (.aload_n 2, 1) := by decide +kernel
theorem dX9_reasonAgainst_28 : decode cX9_reasonAgainst 28 = .ok (.getfield 138, 3) := by decide +kernel
theorem dX9_reasonAgainst_31 : decode cX9_reasonAgainst 31 = .ok (.ifCond .ne 6, 3) := by decide +kernel
theorem dX9_reasonAgainst_34 : decode cX9_reasonAgainst 34 = .ok (.bipush 99, 2) := by decide +kernel
theorem dX9_reasonAgainst_36 : decode cX9_reasonAgainst 36 = .ok (.ireturn, 1) := by decide +kernel
theorem dX9_reasonAgainst_37 : decode cX9_reasonAgainst 37 = .ok (.aload_n 0, 1) := by decide +kernel
theorem dX9_reasonAgainst_38 : decode cX9_reasonAgainst 38 = .ok (.aload_n 2, 1) := by decide +kernel
theorem dX9_reasonAgainst_39 : decode cX9_reasonAgainst 39 = .ok (.getfield 265, 3) := by decide +kernel
theorem dX9_reasonAgainst_42 : decode cX9_reasonAgainst 42 = .ok (.aload_n 1, 1) := by decide +kernel
theorem dX9_reasonAgainst_43 : decode cX9_reasonAgainst 43 = .ok (.aload_n 0, 1) := by decide +kernel
theorem dX9_reasonAgainst_44 : decode cX9_reasonAgainst 44 = .ok (.invokevirtual 158, 3) := by decide +kernel
theorem dX9_reasonAgainst_47 : decode cX9_reasonAgainst 47 = .ok (.invokevirtual 162, 3) := by decide +kernel
theorem dX9_reasonAgainst_50 : decode cX9_reasonAgainst 50 = .ok (.ifCond .eq 8, 3) := by decide +kernel
theorem dX9_reasonAgainst_53 : decode cX9_reasonAgainst 53 = .ok (.bipush 45, 2) := by decide +kernel
theorem dX9_reasonAgainst_55 : decode cX9_reasonAgainst 55 = .ok (.goto 5, 3) := by decide +kernel
theorem dX9_reasonAgainst_58 : decode cX9_reasonAgainst 58 = .ok (.bipush 112, 2) := by decide +kernel
theorem dX9_reasonAgainst_60 : decode cX9_reasonAgainst 60 = .ok (.ireturn, 1) := by decide +kernel
theorem dX9_masteryByRules_0 : decode cX9_masteryByRules 0 = .ok (.iconst 0, 1) := by decide +kernel
theorem dX9_masteryByRules_1 : decode cX9_masteryByRules 1 = .ok (.istore_n 3, 1) := by decide +kernel
theorem dX9_masteryByRules_2 : decode cX9_masteryByRules 2 = .ok (.iconst 0, 1) := by decide +kernel
theorem dX9_masteryByRules_3 : decode cX9_masteryByRules 3 = .ok (.istore 4, 2) := by decide +kernel
theorem dX9_masteryByRules_5 : decode cX9_masteryByRules 5 = .ok (.iconst 0, 1) := by decide +kernel
theorem dX9_masteryByRules_6 : decode cX9_masteryByRules 6 = .ok (.istore 5, 2) := by decide +kernel
theorem dX9_masteryByRules_8 : decode cX9_masteryByRules 8 = .ok (.iload 5, 2) := by decide +kernel
theorem dX9_masteryByRules_10 : decode cX9_masteryByRules 10 = .ok (.aload_n 0, 1) := by decide +kernel
theorem dX9_masteryByRules_11 : decode cX9_masteryByRules 11 = .ok (.getfield 22, 3) := by decide +kernel
theorem dX9_masteryByRules_14 : decode cX9_masteryByRules 14 = .ok (.invokevirtual 58, 3) := by decide +kernel
theorem dX9_masteryByRules_17 : decode cX9_masteryByRules 17 = .ok (.if_icmp .ge 51, 3) := by decide +kernel
theorem dX9_masteryByRules_20 : decode cX9_masteryByRules 20 = .ok (.aload_n 0, 1) := by decide +kernel
theorem dX9_masteryByRules_21 : decode cX9_masteryByRules 21 = .ok (.getfield 22, 3) := by decide +kernel
theorem dX9_masteryByRules_24 : decode cX9_masteryByRules 24 = .ok (.iload 5, 2) := by decide +kernel
theorem dX9_masteryByRules_26 : decode cX9_masteryByRules 26 = .ok (.invokevirtual 85, 3) := by decide +kernel
theorem dX9_masteryByRules_29 : decode cX9_masteryByRules 29 = .ok (.checkcast 120, 3) := by decide +kernel
theorem dX9_masteryByRules_32 : decode cX9_masteryByRules 32 = .ok (.getfield 265, 3) := by decide +kernel
theorem dX9_masteryByRules_35 : decode cX9_masteryByRules 35 = .ok (.aload_n 2, 1) := by decide +kernel
theorem dX9_masteryByRules_36 : decode cX9_masteryByRules 36 = .ok (.if_acmp .ne 26, 3) := by decide +kernel
theorem dX9_masteryByRules_39 : decode cX9_masteryByRules 39 = .ok (.iload_n 3, 1) := by decide +kernel
theorem dX9_masteryByRules_40 : decode cX9_masteryByRules 40 = .ok (.aload_n 0, 1) := by decide +kernel
theorem dX9_masteryByRules_41 : decode cX9_masteryByRules 41 = .ok (.aload_n 1, 1) := by decide +kernel
theorem dX9_masteryByRules_42 : decode cX9_masteryByRules 42 = .ok (.aload_n 0, 1) := by decide +kernel
theorem dX9_masteryByRules_43 : decode cX9_masteryByRules 43 = .ok (.getfield 22, 3) := by decide +kernel
theorem dX9_masteryByRules_46 : decode cX9_masteryByRules 46 = .ok (.iload 5, 2) := by decide +kernel
theorem dX9_masteryByRules_48 : decode cX9_masteryByRules 48 = .ok (.invokevirtual 85, 3) := by decide +kernel
theorem dX9_masteryByRules_51 : decode cX9_masteryByRules 51 = .ok (.checkcast 120, 3) := by decide +kernel
theorem dX9_masteryByRules_54 : decode cX9_masteryByRules 54 = .ok (.invokevirtual 397, 3) := by decide +kernel
theorem dX9_masteryByRules_57 : decode cX9_masteryByRules 57 = .ok (.iadd, 1) := by decide +kernel
theorem dX9_masteryByRules_58 : decode cX9_masteryByRules 58 = .ok (.istore_n 3, 1) := by decide +kernel
theorem dX9_masteryByRules_59 : decode cX9_masteryByRules 59 = .ok (.iinc 4 1, 3) := by decide +kernel
theorem dX9_masteryByRules_62 : decode cX9_masteryByRules 62 = .ok (.iinc 5 1, 3) := by decide +kernel
theorem dX9_masteryByRules_65 : decode cX9_masteryByRules 65 = .ok (.goto (-57), 3) := by decide +kernel
theorem dX9_masteryByRules_68 : decode cX9_masteryByRules 68 = .ok (.iload 4, 2) := by decide +kernel
theorem dX9_masteryByRules_70 : decode cX9_masteryByRules 70 = .ok (.ifCond .ne 8, 3) := by decide +kernel
theorem dX9_masteryByRules_73 : decode cX9_masteryByRules 73 = .ok (.bipush 100, 2) := by decide +kernel
theorem dX9_masteryByRules_75 : decode cX9_masteryByRules 75 = .ok (.goto 7, 3) := by decide +kernel
theorem dX9_masteryByRules_78 : decode cX9_masteryByRules 78 = .ok (.iload_n 3, 1) := by decide +kernel
theorem dX9_masteryByRules_79 : decode cX9_masteryByRules 79 = .ok (.iload 4, 2) := by decide +kernel
theorem dX9_masteryByRules_81 : decode cX9_masteryByRules 81 = .ok (.idiv, 1) := by decide +kernel
theorem dX9_masteryByRules_82 : decode cX9_masteryByRules 82 = .ok (.ireturn, 1) := by decide +kernel
theorem dX9_bestWorthByRules_0 : decode cX9_bestWorthByRules 0 = .ok (.iconst 0, 1) := by decide +kernel
theorem dX9_bestWorthByRules_1 : decode cX9_bestWorthByRules 1 = .ok (.istore_n 3, 1) := by decide +kernel
theorem dX9_bestWorthByRules_2 : decode cX9_bestWorthByRules 2 = .ok (.iconst 0, 1) := by decide +kernel
theorem dX9_bestWorthByRules_3 : decode cX9_bestWorthByRules 3 = .ok (.istore 4, 2) := by decide +kernel
theorem dX9_bestWorthByRules_5 : decode cX9_bestWorthByRules 5 = .ok (.iload 4, 2) := by decide +kernel
theorem dX9_bestWorthByRules_7 : decode cX9_bestWorthByRules 7 = .ok (.aload_n 0, 1) := by decide +kernel
theorem dX9_bestWorthByRules_8 : decode cX9_bestWorthByRules 8 = .ok (.getfield 25, 3) := by decide +kernel
theorem dX9_bestWorthByRules_11 : decode cX9_bestWorthByRules 11 = .ok (.invokevirtual 58, 3) := by decide +kernel
theorem dX9_bestWorthByRules_14 : decode cX9_bestWorthByRules 14 = .ok (.if_icmp .ge 60, 3) := by decide +kernel
theorem dX9_bestWorthByRules_17 : decode cX9_bestWorthByRules 17 = .ok (.aload_n 0, 1) := by decide +kernel
theorem dX9_bestWorthByRules_18 : decode cX9_bestWorthByRules 18 = .ok (.getfield 25, 3) := by decide +kernel
theorem dX9_bestWorthByRules_21 : decode cX9_bestWorthByRules 21 = .ok (.iload 4, 2) := by decide +kernel
theorem dX9_bestWorthByRules_23 : decode cX9_bestWorthByRules 23 = .ok (.invokevirtual 85, 3) := by decide +kernel
theorem dX9_bestWorthByRules_26 : decode cX9_bestWorthByRules 26 = .ok (.checkcast 177, 3) := by decide +kernel
theorem dX9_bestWorthByRules_29 : decode cX9_bestWorthByRules 29 = .ok (.astore 5, 2) := by decide +kernel
theorem dX9_bestWorthByRules_31 : decode cX9_bestWorthByRules 31 = .ok (.aload 5, 2) := by decide +kernel
theorem dX9_bestWorthByRules_33 : decode cX9_bestWorthByRules 33 = .ok (.getfield 210, 3) := by decide +kernel
theorem dX9_bestWorthByRules_36 : decode cX9_bestWorthByRules 36 = .ok (.aload_n 1, 1) := by decide +kernel
theorem dX9_bestWorthByRules_37 : decode cX9_bestWorthByRules 37 = .ok (.if_acmp .ne 31, 3) := by decide +kernel
theorem dX9_bestWorthByRules_40 : decode cX9_bestWorthByRules 40 = .ok (.aload 5, 2) := by decide +kernel
theorem dX9_bestWorthByRules_42 : decode cX9_bestWorthByRules 42 = .ok (.getfield 193, 3) := by decide +kernel
theorem dX9_bestWorthByRules_45 : decode cX9_bestWorthByRules 45 = .ok (.aload_n 2, 1) := by decide +kernel
theorem dX9_bestWorthByRules_46 : decode cX9_bestWorthByRules 46 = .ok (.if_acmp .ne 22, 3) := by decide +kernel
theorem dX9_bestWorthByRules_49 : decode cX9_bestWorthByRules 49 = .ok (.iload_n 3, 1) := by decide +kernel
theorem dX9_bestWorthByRules_50 : decode cX9_bestWorthByRules 50 = .ok (.aload 5, 2) := by decide +kernel
theorem dX9_bestWorthByRules_52 : decode cX9_bestWorthByRules 52 = .ok (.aload 5, 2) := by decide +kernel
theorem dX9_bestWorthByRules_54 : decode cX9_bestWorthByRules 54 = .ok (.invokevirtual 182, 3) := by decide +kernel
theorem dX9_bestWorthByRules_57 : decode cX9_bestWorthByRules 57 = .ok (.aload_n 0, 1) := by decide +kernel
theorem dX9_bestWorthByRules_58 : decode cX9_bestWorthByRules 58 = .ok (.getfield 47, 3) := by decide +kernel
theorem dX9_bestWorthByRules_61 : decode cX9_bestWorthByRules 61 = .ok (.invokevirtual 401, 3) := by decide +kernel
theorem dX9_bestWorthByRules_64 : decode cX9_bestWorthByRules 64 = .ok (.invokestatic 405, 3) := by decide +kernel
theorem dX9_bestWorthByRules_67 : decode cX9_bestWorthByRules 67 = .ok (.istore_n 3, 1) := by decide +kernel
theorem dX9_bestWorthByRules_68 : decode cX9_bestWorthByRules 68 = .ok (.iinc 4 1, 3) := by decide +kernel
theorem dX9_bestWorthByRules_71 : decode cX9_bestWorthByRules 71 = .ok (.goto (-66), 3) := by decide +kernel
theorem dX9_bestWorthByRules_74 : decode cX9_bestWorthByRules 74 = .ok (.iload_n 3, 1) := by decide +kernel
theorem dX9_bestWorthByRules_75 : decode cX9_bestWorthByRules 75 = .ok (.ireturn, 1) := by decide +kernel
theorem dX9_dropSettledAppeals_0 : decode cX9_dropSettledAppeals 0 = .ok (.aload_n 0, 1) := by decide +kernel
theorem dX9_dropSettledAppeals_1 : decode cX9_dropSettledAppeals 1 = .ok (.getfield 34, 3) := by decide +kernel
theorem dX9_dropSettledAppeals_4 : decode cX9_dropSettledAppeals 4 = .ok (.invokevirtual 58, 3) := by decide +kernel
theorem dX9_dropSettledAppeals_7 : decode cX9_dropSettledAppeals 7 = .ok (.iconst 1, 1) := by decide +kernel
theorem dX9_dropSettledAppeals_8 : decode cX9_dropSettledAppeals 8 = .ok (.isub, 1) := by decide +kernel
theorem dX9_dropSettledAppeals_9 : decode cX9_dropSettledAppeals 9 = .ok (.istore_n 1, 1) := by decide +kernel
theorem dX9_dropSettledAppeals_10 : decode cX9_dropSettledAppeals 10 = .ok (.iload_n 1, 1) := by decide +kernel
theorem dX9_dropSettledAppeals_11 : decode cX9_dropSettledAppeals 11 = .ok (.ifCond .lt 35, 3) := by decide +kernel
theorem dX9_dropSettledAppeals_14 : decode cX9_dropSettledAppeals 14 = .ok (.aload_n 0, 1) := by decide +kernel
theorem dX9_dropSettledAppeals_15 : decode cX9_dropSettledAppeals 15 = .ok (.getfield 34, 3) := by decide +kernel
theorem dX9_dropSettledAppeals_18 : decode cX9_dropSettledAppeals 18 = .ok (.iload_n 1, 1) := by decide +kernel
theorem dX9_dropSettledAppeals_19 : decode cX9_dropSettledAppeals 19 = .ok (.invokevirtual 85, 3) := by decide +kernel
theorem dX9_dropSettledAppeals_22 : decode cX9_dropSettledAppeals 22 = .ok (.checkcast 177, 3) := by decide +kernel
theorem dX9_dropSettledAppeals_25 : decode cX9_dropSettledAppeals 25 = .ok (.getfield 230, 3) := by decide +kernel
theorem dX9_dropSettledAppeals_28 : decode cX9_dropSettledAppeals 28 = .ok (.ifCond .ne 12, 3) := by decide +kernel
theorem dX9_dropSettledAppeals_31 : decode cX9_dropSettledAppeals 31 = .ok (.aload_n 0, 1) := by decide +kernel
theorem dX9_dropSettledAppeals_32 : decode cX9_dropSettledAppeals 32 = .ok (.getfield 34, 3) := by decide +kernel
theorem dX9_dropSettledAppeals_35 : decode cX9_dropSettledAppeals 35 = .ok (.iload_n 1, 1) := by decide +kernel
theorem dX9_dropSettledAppeals_36 : decode cX9_dropSettledAppeals 36 = .ok (.invokevirtual 248, 3) := by decide +kernel
theorem dX9_dropSettledAppeals_39 : decode cX9_dropSettledAppeals 39 = .ok (.pop, 1) := by decide +kernel
theorem dX9_dropSettledAppeals_40 : decode cX9_dropSettledAppeals 40 = .ok (.iinc 1 (-1), 3) := by decide +kernel
theorem dX9_dropSettledAppeals_43 : decode cX9_dropSettledAppeals 43 = .ok (.goto (-33), 3) := by decide +kernel
theorem dX9_dropSettledAppeals_46 : decode cX9_dropSettledAppeals 46 = .ok (.return_, 1) := by decide +kernel
theorem dX9_gradeAllAnew_0 : decode cX9_gradeAllAnew 0 = .ok (.aload_n 0, 1) := by decide +kernel
theorem dX9_gradeAllAnew_1 : decode cX9_gradeAllAnew 1 = .ok (.getfield 37, 3) := by decide +kernel
theorem dX9_gradeAllAnew_4 : decode cX9_gradeAllAnew 4 = .ok (.invokevirtual 410, 3) := by decide +kernel
theorem dX9_gradeAllAnew_7 : decode cX9_gradeAllAnew 7 = .ok (.iconst 0, 1) := by decide +kernel
theorem dX9_gradeAllAnew_8 : decode cX9_gradeAllAnew 8 = .ok (.istore_n 2, 1) := by decide +kernel
theorem dX9_gradeAllAnew_9 : decode cX9_gradeAllAnew 9 = .ok (.iconst 0, 1) := by decide +kernel
theorem dX9_gradeAllAnew_10 : decode cX9_gradeAllAnew 10 = .ok (.istore_n 3, 1) := by decide +kernel
theorem dX9_gradeAllAnew_11 : decode cX9_gradeAllAnew 11 = .ok (.iload_n 3, 1) := by decide +kernel
theorem dX9_gradeAllAnew_12 : decode cX9_gradeAllAnew 12 = .ok (.aload_n 1, 1) := by decide +kernel
theorem dX9_gradeAllAnew_13 : decode cX9_gradeAllAnew 13 = .ok (.getfield 141, 3) := by decide +kernel
theorem dX9_gradeAllAnew_16 : decode cX9_gradeAllAnew 16 = .ok (.invokevirtual 58, 3) := by decide +kernel
theorem dX9_gradeAllAnew_19 : decode cX9_gradeAllAnew 19 = .ok (.if_icmp .ge 56, 3) := by decide +kernel
theorem dX9_gradeAllAnew_22 : decode cX9_gradeAllAnew 22 = .ok (.aload_n 1, 1) := by decide +kernel
theorem dX9_gradeAllAnew_23 : decode cX9_gradeAllAnew 23 = .ok (.getfield 141, 3) := by decide +kernel
theorem dX9_gradeAllAnew_26 : decode cX9_gradeAllAnew 26 = .ok (.iload_n 3, 1) := by decide +kernel
theorem dX9_gradeAllAnew_27 : decode cX9_gradeAllAnew 27 = .ok (.invokevirtual 85, 3) := by decide +kernel
theorem dX9_gradeAllAnew_30 : decode cX9_gradeAllAnew 30 = .ok (.checkcast 177, 3) := by decide +kernel
theorem dX9_gradeAllAnew_33 : decode cX9_gradeAllAnew 33 = .ok (.astore 4, 2) := by decide +kernel
theorem dX9_gradeAllAnew_35 : decode cX9_gradeAllAnew 35 = .ok (.aload 4, 2) := by decide +kernel
theorem dX9_gradeAllAnew_37 : decode cX9_gradeAllAnew 37 = .ok (.invokevirtual 413, 3) := by decide +kernel
theorem dX9_gradeAllAnew_40 : decode cX9_gradeAllAnew 40 = .ok (.aload 4, 2) := by decide +kernel
theorem dX9_gradeAllAnew_42 : decode cX9_gradeAllAnew 42 = .ok (.getfield 416, 3) := by decide +kernel
theorem dX9_gradeAllAnew_45 : decode cX9_gradeAllAnew 45 = .ok (.ifCond .eq 6, 3) := by decide +kernel
theorem dX9_gradeAllAnew_48 : decode cX9_gradeAllAnew 48 = .ok (.iinc 2 1, 3) := by decide +kernel
theorem dX9_gradeAllAnew_51 : decode cX9_gradeAllAnew 51 = .ok (.aload_n 0, 1) := by decide +kernel
theorem dX9_gradeAllAnew_52 : decode cX9_gradeAllAnew 52 = .ok (.getfield 37, 3) := by decide +kernel
theorem dX9_gradeAllAnew_55 : decode cX9_gradeAllAnew 55 = .ok (.aload_n 0, 1) := by decide +kernel
theorem dX9_gradeAllAnew_56 : decode cX9_gradeAllAnew 56 = .ok (.aload 4, 2) := by decide +kernel
theorem dX9_gradeAllAnew_58 : decode cX9_gradeAllAnew 58 = .ok (.getfield 416, 3) := by decide +kernel
theorem dX9_gradeAllAnew_61 : decode cX9_gradeAllAnew 61 = .ok (.invokevirtual 419, 3) := by decide +kernel
theorem dX9_gradeAllAnew_64 : decode cX9_gradeAllAnew 64 = .ok (.aload 4, 2) := by decide +kernel
theorem dX9_gradeAllAnew_66 : decode cX9_gradeAllAnew 66 = .ok (.invokevirtual 423, 3) := by decide +kernel
theorem dX9_gradeAllAnew_69 : decode cX9_gradeAllAnew 69 = .ok (.iinc 3 1, 3) := by decide +kernel
theorem dX9_gradeAllAnew_72 : decode cX9_gradeAllAnew 72 = .ok (.goto (-61), 3) := by decide +kernel
theorem dX9_gradeAllAnew_75 : decode cX9_gradeAllAnew 75 = .ok (.iload_n 2, 1) := by decide +kernel
theorem dX9_gradeAllAnew_76 : decode cX9_gradeAllAnew 76 = .ok (.ireturn, 1) := by decide +kernel
theorem dX9_placeAmongHarmed_0 : decode cX9_placeAmongHarmed 0 = .ok (.aload_n 0, 1) := by decide +kernel
theorem dX9_placeAmongHarmed_1 : decode cX9_placeAmongHarmed 1 = .ok (.getfield 37, 3) := by decide +kernel
theorem dX9_placeAmongHarmed_4 : decode cX9_placeAmongHarmed 4 = .ok (.invokevirtual 58, 3) := by decide +kernel
theorem dX9_placeAmongHarmed_7 : decode cX9_placeAmongHarmed 7 = .ok (.istore_n 2, 1) := by decide +kernel
theorem dX9_placeAmongHarmed_8 : decode cX9_placeAmongHarmed 8 = .ok (.iload_n 2, 1) := by decide +kernel
theorem dX9_placeAmongHarmed_9 : decode cX9_placeAmongHarmed 9 = .ok (.ifCond .le 29, 3) := by decide +kernel
theorem dX9_placeAmongHarmed_12 : decode cX9_placeAmongHarmed 12 = .ok (.aload_n 0, 1) := by decide +kernel
theorem dX9_placeAmongHarmed_13 : decode cX9_placeAmongHarmed 13 = .ok (.getfield 37, 3) := by decide +kernel
theorem dX9_placeAmongHarmed_16 : decode cX9_placeAmongHarmed 16 = .ok (.iload_n 2, 1) := by decide +kernel
theorem dX9_placeAmongHarmed_17 : decode cX9_placeAmongHarmed 17 = .ok (.iconst 1, 1) := by decide +kernel
theorem dX9_placeAmongHarmed_18 : decode cX9_placeAmongHarmed 18 = .ok (.isub, 1) := by decide +kernel
theorem dX9_placeAmongHarmed_19 : decode cX9_placeAmongHarmed 19 = .ok (.invokevirtual 85, 3) := by decide +kernel
theorem dX9_placeAmongHarmed_22 : decode cX9_placeAmongHarmed 22 = .ok (.checkcast 177, 3) := by decide +kernel
theorem dX9_placeAmongHarmed_25 : decode cX9_placeAmongHarmed 25 = .ok (.getfield 416, 3) := by decide +kernel
theorem dX9_placeAmongHarmed_28 : decode cX9_placeAmongHarmed 28 = .ok (.iload_n 1, 1) := by decide +kernel
theorem dX9_placeAmongHarmed_29 : decode cX9_placeAmongHarmed 29 = .ok (.if_icmp .ge 9, 3) := by decide +kernel
theorem dX9_placeAmongHarmed_32 : decode cX9_placeAmongHarmed 32 = .ok (.iinc 2 (-1), 3) := by decide +kernel
theorem dX9_placeAmongHarmed_35 : decode cX9_placeAmongHarmed 35 = .ok (.goto (-27), 3) := by decide +kernel
theorem dX9_placeAmongHarmed_38 : decode cX9_placeAmongHarmed 38 = .ok (.iload_n 2, 1) := by decide +kernel
theorem dX9_placeAmongHarmed_39 : decode cX9_placeAmongHarmed 39 = .ok (.ireturn, 1) := by decide +kernel
theorem dX9_revokeUnearned_0 : decode cX9_revokeUnearned 0 = .ok (.iconst 0, 1) := by decide +kernel
theorem dX9_revokeUnearned_1 : decode cX9_revokeUnearned 1 = .ok (.istore_n 1, 1) := by decide +kernel
theorem dX9_revokeUnearned_2 : decode cX9_revokeUnearned 2 = .ok (.iload_n 1, 1) := by decide +kernel
theorem dX9_revokeUnearned_3 : decode cX9_revokeUnearned 3 = .ok (.aload_n 0, 1) := by decide +kernel
theorem dX9_revokeUnearned_4 : decode cX9_revokeUnearned 4 = .ok (.getfield 31, 3) := by decide +kernel
theorem dX9_revokeUnearned_7 : decode cX9_revokeUnearned 7 = .ok (.invokevirtual 58, 3) := by decide +kernel
theorem dX9_revokeUnearned_10 : decode cX9_revokeUnearned 10 = .ok (.if_icmp .ge 54, 3) := by decide +kernel
theorem dX9_revokeUnearned_13 : decode cX9_revokeUnearned 13 = .ok (.aload_n 0, 1) := by decide +kernel
theorem dX9_revokeUnearned_14 : decode cX9_revokeUnearned 14 = .ok (.getfield 31, 3) := by decide +kernel
theorem dX9_revokeUnearned_17 : decode cX9_revokeUnearned 17 = .ok (.iload_n 1, 1) := by decide +kernel
theorem dX9_revokeUnearned_18 : decode cX9_revokeUnearned 18 = .ok (.invokevirtual 85, 3) := by decide +kernel
theorem dX9_revokeUnearned_21 : decode cX9_revokeUnearned 21 = .ok (.checkcast 306, 3) := by decide +kernel
theorem dX9_revokeUnearned_24 : decode cX9_revokeUnearned 24 = .ok (.astore_n 2, 1) := by decide +kernel
theorem dX9_revokeUnearned_25 : decode cX9_revokeUnearned 25 = .ok (.aload_n 2, 1) := by decide +kernel
theorem dX9_revokeUnearned_26 : decode cX9_revokeUnearned 26 = .ok (.getfield 426, 3) := by decide +kernel
theorem dX9_revokeUnearned_29 : decode cX9_revokeUnearned 29 = .ok (.astore_n 3, 1) := by decide +kernel
theorem dX9_revokeUnearned_30 : decode cX9_revokeUnearned 30 = .ok (.aload_n 0, 1) := by decide +kernel
theorem dX9_revokeUnearned_31 : decode cX9_revokeUnearned 31 = .ok (.aload_n 2, 1) := by decide +kernel
theorem dX9_revokeUnearned_32 : decode cX9_revokeUnearned 32 = .ok (.getfield 430, 3) := by decide +kernel
theorem dX9_revokeUnearned_35 : decode cX9_revokeUnearned 35 = .ok (.aload_n 3, 1) := by decide +kernel
theorem dX9_revokeUnearned_36 : decode cX9_revokeUnearned 36 = .ok (.getfield 295, 3) := by decide +kernel
theorem dX9_revokeUnearned_39 : decode cX9_revokeUnearned 39 = .ok (.aload_n 3, 1) := by decide +kernel
theorem dX9_revokeUnearned_40 : decode cX9_revokeUnearned 40 = .ok (.getfield 297, 3) := by decide +kernel
theorem dX9_revokeUnearned_43 : decode cX9_revokeUnearned 43 = .ok (.aload_n 2, 1) := by decide +kernel
theorem dX9_revokeUnearned_44 : decode cX9_revokeUnearned 44 = .ok (.getfield 431, 3) := by decide +kernel
theorem dX9_revokeUnearned_47 : decode cX9_revokeUnearned 47 = .ok (.invokevirtual 300, 3) := by decide +kernel
theorem dX9_revokeUnearned_50 : decode cX9_revokeUnearned 50 = .ok (.ifCond .ne 8, 3) := by decide +kernel
theorem dX9_revokeUnearned_53 : decode cX9_revokeUnearned 53 = .ok (.aload_n 2, 1) := by decide +kernel
theorem dX9_revokeUnearned_54 : decode cX9_revokeUnearned 54 = .ok (.iconst 0, 1) := by decide +kernel
theorem dX9_revokeUnearned_55 : decode cX9_revokeUnearned 55 = .ok (.putfield 313, 3) := by decide +kernel
theorem dX9_revokeUnearned_58 : decode cX9_revokeUnearned 58 = .ok (.iinc 1 1, 3) := by decide +kernel
theorem dX9_revokeUnearned_61 : decode cX9_revokeUnearned 61 = .ok (.goto (-59), 3) := by decide +kernel
theorem dX9_revokeUnearned_64 : decode cX9_revokeUnearned 64 = .ok (.return_, 1) := by decide +kernel
theorem dX9_standingCertificate_0 : decode cX9_standingCertificate 0 = .ok (.iconst 0, 1) := by decide +kernel
theorem dX9_standingCertificate_1 : decode cX9_standingCertificate 1 = .ok (.istore_n 3, 1) := by decide +kernel
theorem dX9_standingCertificate_2 : decode cX9_standingCertificate 2 = .ok (.iload_n 3, 1) := by decide +kernel
theorem dX9_standingCertificate_3 : decode cX9_standingCertificate 3 = .ok (.aload_n 0, 1) := by decide +kernel
theorem dX9_standingCertificate_4 : decode cX9_standingCertificate 4 = .ok (.getfield 31, 3) := by decide +kernel
theorem dX9_standingCertificate_7 : decode cX9_standingCertificate 7 = .ok (.invokevirtual 58, 3) := by decide +kernel
theorem dX9_standingCertificate_10 : decode cX9_standingCertificate 10 = .ok (.if_icmp .ge 51, 3) := by decide +kernel
theorem dX9_standingCertificate_13 : decode cX9_standingCertificate 13 = .ok (.aload_n 0, 1) := by decide +kernel
theorem dX9_standingCertificate_14 : decode cX9_standingCertificate 14 = .ok (.getfield 31, 3) := by decide +kernel
theorem dX9_standingCertificate_17 : decode cX9_standingCertificate 17 = .ok (.iload_n 3, 1) := by decide +kernel
theorem dX9_standingCertificate_18 : decode cX9_standingCertificate 18 = .ok (.invokevirtual 85, 3) := by decide +kernel
theorem dX9_standingCertificate_21 : decode cX9_standingCertificate 21 = .ok (.checkcast 306, 3) := by decide +kernel
theorem dX9_standingCertificate_24 : decode cX9_standingCertificate 24 = .ok (.astore 4, 2) := by decide +kernel
theorem dX9_standingCertificate_26 : decode cX9_standingCertificate 26 = .ok (.aload 4, 2) := by decide +kernel
theorem dX9_standingCertificate_28 : decode cX9_standingCertificate 28 = .ok (.getfield 313, 3) := by decide +kernel
theorem dX9_standingCertificate_31 : decode cX9_standingCertificate 31 = .ok (.ifCond .eq 24, 3) := by decide +kernel
theorem dX9_standingCertificate_34 : decode cX9_standingCertificate 34 = .ok (.aload 4, 2) := by decide +kernel
theorem dX9_standingCertificate_36 : decode cX9_standingCertificate 36 = .ok (.getfield 430, 3) := by decide +kernel
theorem dX9_standingCertificate_39 : decode cX9_standingCertificate 39 = .ok (.aload_n 1, 1) := by decide +kernel
theorem dX9_standingCertificate_40 : decode cX9_standingCertificate 40 = .ok (.if_acmp .ne 15, 3) := by decide +kernel
theorem dX9_standingCertificate_43 : decode cX9_standingCertificate 43 = .ok (.aload 4, 2) := by decide +kernel
theorem dX9_standingCertificate_45 : decode cX9_standingCertificate 45 = .ok (.getfield 426, 3) := by decide +kernel
theorem dX9_standingCertificate_48 : decode cX9_standingCertificate 48 = .ok (.aload_n 2, 1) := by decide +kernel
theorem dX9_standingCertificate_49 : decode cX9_standingCertificate 49 = .ok (.if_acmp .ne 6, 3) := by decide +kernel
theorem dX9_standingCertificate_52 : decode cX9_standingCertificate 52 = .ok (.aload 4, 2) := by decide +kernel
theorem dX9_standingCertificate_54 : decode cX9_standingCertificate 54 = .ok (.areturn, 1) := by decide +kernel
theorem dX9_standingCertificate_55 : decode cX9_standingCertificate 55 = .ok (.iinc 3 1, 3) := by decide +kernel
theorem dX9_standingCertificate_58 : decode cX9_standingCertificate 58 = .ok (.goto (-56), 3) := by decide +kernel
theorem dX9_standingCertificate_61 : decode cX9_standingCertificate 61 = .ok (.aconst_null, 1) := by decide +kernel
theorem dX9_standingCertificate_62 : decode cX9_standingCertificate 62 = .ok (.areturn, 1) := by decide +kernel
theorem dX9_countStanding_0 : decode cX9_countStanding 0 = .ok (.iconst 0, 1) := by decide +kernel
theorem dX9_countStanding_1 : decode cX9_countStanding 1 = .ok (.istore_n 1, 1) := by decide +kernel
theorem dX9_countStanding_2 : decode cX9_countStanding 2 = .ok (.iconst 0, 1) := by decide +kernel
theorem dX9_countStanding_3 : decode cX9_countStanding 3 = .ok (.istore_n 2, 1) := by decide +kernel
theorem dX9_countStanding_4 : decode cX9_countStanding 4 = .ok (.iload_n 2, 1) := by decide +kernel
theorem dX9_countStanding_5 : decode cX9_countStanding 5 = .ok (.aload_n 0, 1) := by decide +kernel
theorem dX9_countStanding_6 : decode cX9_countStanding 6 = .ok (.getfield 31, 3) := by decide +kernel
theorem dX9_countStanding_9 : decode cX9_countStanding 9 = .ok (.invokevirtual 58, 3) := by decide +kernel
theorem dX9_countStanding_12 : decode cX9_countStanding 12 = .ok (.if_icmp .ge 29, 3) := by decide +kernel
theorem dX9_countStanding_15 : decode cX9_countStanding 15 = .ok (.aload_n 0, 1) := by decide +kernel
theorem dX9_countStanding_16 : decode cX9_countStanding 16 = .ok (.getfield 31, 3) := by decide +kernel
theorem dX9_countStanding_19 : decode cX9_countStanding 19 = .ok (.iload_n 2, 1) := by decide +kernel
theorem dX9_countStanding_20 : decode cX9_countStanding 20 = .ok (.invokevirtual 85, 3) := by decide +kernel
theorem dX9_countStanding_23 : decode cX9_countStanding 23 = .ok (.checkcast 306, 3) := by decide +kernel
theorem dX9_countStanding_26 : decode cX9_countStanding 26 = .ok (.getfield 313, 3) := by decide +kernel
theorem dX9_countStanding_29 : decode cX9_countStanding 29 = .ok (.ifCond .eq 6, 3) := by decide +kernel
theorem dX9_countStanding_32 : decode cX9_countStanding 32 = .ok (.iinc 1 1, 3) := by decide +kernel
theorem dX9_countStanding_35 : decode cX9_countStanding 35 = .ok (.iinc 2 1, 3) := by decide +kernel
theorem dX9_countStanding_38 : decode cX9_countStanding 38 = .ok (.goto (-34), 3) := by decide +kernel
theorem dX9_countStanding_41 : decode cX9_countStanding 41 = .ok (.iload_n 1, 1) := by decide +kernel
theorem dX9_countStanding_42 : decode cX9_countStanding 42 = .ok (.ireturn, 1) := by decide +kernel
theorem dJ5_init_d00df_0 : decode cJ5_init_d00df 0 = .ok (.aload_n 0, 1) := by decide +kernel
theorem dJ5_init_d00df_1 : decode cJ5_init_d00df 1 = .ok (.invokespecial 3, 3) := by decide +kernel
theorem dJ5_init_d00df_4 : decode cJ5_init_d00df 4 = .ok (.getstatic 18, 3) := by decide +kernel
theorem dJ5_init_d00df_7 : decode cJ5_init_d00df 7 = .ok (.ifCond .eq 18, 3) := by decide +kernel
theorem dJ5_init_d00df_10 : decode cJ5_init_d00df 10 = .ok (.aload_n 0, 1) := by decide +kernel
theorem dJ5_init_d00df_11 : decode cJ5_init_d00df 11 = .ok (.iload_n 1, 1) := by decide +kernel
theorem dJ5_init_d00df_12 : decode cJ5_init_d00df 12 = .ok (.newarray .byte, 2) := by decide +kernel
theorem dJ5_init_d00df_14 : decode cJ5_init_d00df 14 = .ok (.putfield 15, 3) := by decide +kernel
theorem dJ5_init_d00df_17 : decode cJ5_init_d00df 17 = .ok (.aload_n 0, 1) := by decide +kernel
theorem dJ5_init_d00df_18 : decode cJ5_init_d00df 18 = .ok (.iconst 0, 1) := by decide +kernel
theorem dJ5_init_d00df_19 : decode cJ5_init_d00df 19 = .ok (.putfield 22, 3) := by decide +kernel
theorem dJ5_init_d00df_22 : decode cJ5_init_d00df 22 = .ok (.goto 16, 3) := by decide +kernel
theorem dJ5_init_d00df_25 : decode cJ5_init_d00df 25 = .ok (.aload_n 0, 1) := by decide +kernel
theorem dJ5_init_d00df_26 : decode cJ5_init_d00df 26 = .ok (.iload_n 1, 1) := by decide +kernel
theorem dJ5_init_d00df_27 : decode cJ5_init_d00df 27 = .ok (.invokestatic 26, 3) := by decide +kernel
theorem dJ5_init_d00df_30 : decode cJ5_init_d00df 30 = .ok (.putfield 15, 3) := by decide +kernel
theorem dJ5_init_d00df_33 : decode cJ5_init_d00df 33 = .ok (.aload_n 0, 1) := by decide +kernel
theorem dJ5_init_d00df_34 : decode cJ5_init_d00df 34 = .ok (.iconst 1, 1) := by decide +kernel
theorem dJ5_init_d00df_35 : decode cJ5_init_d00df 35 = .ok (.putfield 22, 3) := by decide +kernel
theorem dJ5_init_d00df_38 : decode cJ5_init_d00df 38 = .ok (.return_, 1) := by decide +kernel
theorem dJ5_length_8abf5_0 : decode cJ5_length_8abf5 0 = .ok (.aload_n 0, 1) := by decide +kernel
theorem dJ5_length_8abf5_1 : decode cJ5_length_8abf5 1 = .ok (.getfield 79, 3) := by decide +kernel
theorem dJ5_length_8abf5_4 : decode cJ5_length_8abf5 4 = .ok (.ireturn, 1) := by decide +kernel
theorem dJ5_ensureCapacityInternal_d00df_0 : decode cJ5_ensureCapacityInternal_d00df 0 = .ok (.aload_n 0, 1) := by decide +kernel
theorem dJ5_ensureCapacityInternal_d00df_1 : decode cJ5_ensureCapacityInternal_d00df 1 = .ok (.getfield 15, 3) := by decide +kernel
theorem dJ5_ensureCapacityInternal_d00df_4 : decode cJ5_ensureCapacityInternal_d00df 4 = .ok (.arraylength, 1) := by decide +kernel
theorem dJ5_ensureCapacityInternal_d00df_5 : decode cJ5_ensureCapacityInternal_d00df 5 = .ok (.aload_n 0, 1) := by decide +kernel
theorem dJ5_ensureCapacityInternal_d00df_6 : decode cJ5_ensureCapacityInternal_d00df 6 = .ok (.getfield 22, 3) := by decide +kernel
theorem dJ5_ensureCapacityInternal_d00df_9 : decode cJ5_ensureCapacityInternal_d00df 9 = .ok (.ishr, 1) := by decide +kernel
theorem dJ5_ensureCapacityInternal_d00df_10 : decode cJ5_ensureCapacityInternal_d00df 10 = .ok (.istore_n 2, 1) := by decide +kernel
theorem dJ5_ensureCapacityInternal_d00df_11 : decode cJ5_ensureCapacityInternal_d00df 11 = .ok (.iload_n 1, 1) := by decide +kernel
theorem dJ5_ensureCapacityInternal_d00df_12 : decode cJ5_ensureCapacityInternal_d00df 12 = .ok (.iload_n 2, 1) := by decide +kernel
theorem dJ5_ensureCapacityInternal_d00df_13 : decode cJ5_ensureCapacityInternal_d00df 13 = .ok (.isub, 1) := by decide +kernel
theorem dJ5_ensureCapacityInternal_d00df_14 : decode cJ5_ensureCapacityInternal_d00df 14 = .ok (.ifCond .le 24, 3) := by decide +kernel
theorem dJ5_ensureCapacityInternal_d00df_17 : decode cJ5_ensureCapacityInternal_d00df 17 = .ok (.aload_n 0, 1) := by decide +kernel
theorem dJ5_ensureCapacityInternal_d00df_18 : decode cJ5_ensureCapacityInternal_d00df 18 = .ok (.aload_n 0, 1) := by decide +kernel
theorem dJ5_ensureCapacityInternal_d00df_19 : decode cJ5_ensureCapacityInternal_d00df 19 = .ok (.getfield 15, 3) := by decide +kernel
theorem dJ5_ensureCapacityInternal_d00df_22 : decode cJ5_ensureCapacityInternal_d00df 22 = .ok (.aload_n 0, 1) := by decide +kernel
theorem dJ5_ensureCapacityInternal_d00df_23 : decode cJ5_ensureCapacityInternal_d00df 23 = .ok (.iload_n 1, 1) := by decide +kernel
theorem dJ5_ensureCapacityInternal_d00df_24 : decode cJ5_ensureCapacityInternal_d00df 24 = .ok (.invokevirtual 104, 3) := by decide +kernel
theorem dJ5_ensureCapacityInternal_d00df_27 : decode cJ5_ensureCapacityInternal_d00df 27 = .ok (.aload_n 0, 1) := by decide +kernel
theorem dJ5_ensureCapacityInternal_d00df_28 : decode cJ5_ensureCapacityInternal_d00df 28 = .ok (.getfield 22, 3) := by decide +kernel
theorem dJ5_ensureCapacityInternal_d00df_31 : decode cJ5_ensureCapacityInternal_d00df 31 = .ok (.ishl, 1) := by decide +kernel
theorem dJ5_ensureCapacityInternal_d00df_32 : decode cJ5_ensureCapacityInternal_d00df 32 = .ok (.invokestatic 108, 3) := by decide +kernel
theorem dJ5_ensureCapacityInternal_d00df_35 : decode cJ5_ensureCapacityInternal_d00df 35 = .ok (.putfield 15, 3) := by decide +kernel
theorem dJ5_ensureCapacityInternal_d00df_38 : decode cJ5_ensureCapacityInternal_d00df 38 = .ok (.return_, 1) := by decide +kernel
theorem dJ5_newCapacity_0f7a4_0 : decode cJ5_newCapacity_0f7a4 0 = .ok (.aload_n 0, 1) := by decide +kernel
theorem dJ5_newCapacity_0f7a4_1 : decode cJ5_newCapacity_0f7a4 1 = .ok (.getfield 15, 3) := by decide +kernel
theorem dJ5_newCapacity_0f7a4_4 : decode cJ5_newCapacity_0f7a4 4 = .ok (.arraylength, 1) := by decide +kernel
theorem dJ5_newCapacity_0f7a4_5 : decode cJ5_newCapacity_0f7a4 5 = .ok (.istore_n 2, 1) := by decide +kernel
theorem dJ5_newCapacity_0f7a4_6 : decode cJ5_newCapacity_0f7a4 6 = .ok (.iload_n 1, 1) := by decide +kernel
theorem dJ5_newCapacity_0f7a4_7 : decode cJ5_newCapacity_0f7a4 7 = .ok (.aload_n 0, 1) := by decide +kernel
theorem dJ5_newCapacity_0f7a4_8 : decode cJ5_newCapacity_0f7a4 8 = .ok (.getfield 22, 3) := by decide +kernel
theorem dJ5_newCapacity_0f7a4_11 : decode cJ5_newCapacity_0f7a4 11 = .ok (.ishl, 1) := by decide +kernel
theorem dJ5_newCapacity_0f7a4_12 : decode cJ5_newCapacity_0f7a4 12 = .ok (.istore_n 3, 1) := by decide +kernel
theorem dJ5_newCapacity_0f7a4_13 : decode cJ5_newCapacity_0f7a4 13 = .ok (.iload_n 3, 1) := by decide +kernel
theorem dJ5_newCapacity_0f7a4_14 : decode cJ5_newCapacity_0f7a4 14 = .ok (.iload_n 2, 1) := by decide +kernel
theorem dJ5_newCapacity_0f7a4_15 : decode cJ5_newCapacity_0f7a4 15 = .ok (.isub, 1) := by decide +kernel
theorem dJ5_newCapacity_0f7a4_16 : decode cJ5_newCapacity_0f7a4 16 = .ok (.istore 4, 2) := by decide +kernel
theorem dJ5_newCapacity_0f7a4_18 : decode cJ5_newCapacity_0f7a4 18 = .ok (.iload_n 2, 1) := by decide +kernel
theorem dJ5_newCapacity_0f7a4_19 : decode cJ5_newCapacity_0f7a4 19 = .ok (.iload 4, 2) := by decide +kernel
theorem dJ5_newCapacity_0f7a4_21 : decode cJ5_newCapacity_0f7a4 21 = .ok (.iload_n 2, 1) := by decide +kernel
theorem dJ5_newCapacity_0f7a4_22 : decode cJ5_newCapacity_0f7a4 22 = .ok (.iconst 2, 1) := by decide +kernel
theorem dJ5_newCapacity_0f7a4_23 : decode cJ5_newCapacity_0f7a4 23 = .ok (.aload_n 0, 1) := by decide +kernel
theorem dJ5_newCapacity_0f7a4_24 : decode cJ5_newCapacity_0f7a4 24 = .ok (.getfield 22, 3) := by decide +kernel
theorem dJ5_newCapacity_0f7a4_27 : decode cJ5_newCapacity_0f7a4 27 = .ok (.ishl, 1) := by decide +kernel
theorem dJ5_newCapacity_0f7a4_28 : decode cJ5_newCapacity_0f7a4 28 = .ok (.iadd, 1) := by decide +kernel
theorem dJ5_newCapacity_0f7a4_29 : decode cJ5_newCapacity_0f7a4 29 = .ok (.invokestatic 114, 3) := by decide +kernel
theorem dJ5_newCapacity_0f7a4_32 : decode cJ5_newCapacity_0f7a4 32 = .ok (.istore 5, 2) := by decide +kernel
theorem dJ5_newCapacity_0f7a4_34 : decode cJ5_newCapacity_0f7a4 34 = .ok (.iload 5, 2) := by decide +kernel
theorem dJ5_newCapacity_0f7a4_36 : decode cJ5_newCapacity_0f7a4 36 = .ok (.ldc 39, 2) := by decide +kernel
theorem dJ5_newCapacity_0f7a4_38 : decode cJ5_newCapacity_0f7a4 38 = .ok (.if_icmp .ne 13, 3) := by decide +kernel
theorem dJ5_newCapacity_0f7a4_41 : decode cJ5_newCapacity_0f7a4 41 = .ok (.new 120, 3) := by decide +kernel
theorem dJ5_newCapacity_0f7a4_44 : decode cJ5_newCapacity_0f7a4 44 = .ok (.dup, 1) := by decide +kernel
theorem dJ5_newCapacity_0f7a4_45 : decode cJ5_newCapacity_0f7a4 45 = .ok (.ldc 122, 2) := by decide +kernel
theorem dJ5_newCapacity_0f7a4_47 : decode cJ5_newCapacity_0f7a4 47 = .ok (.invokespecial 124, 3) := by decide +kernel
theorem dJ5_newCapacity_0f7a4_50 : decode cJ5_newCapacity_0f7a4 50 = .ok (.athrow, 1) := by decide +kernel
theorem dJ5_newCapacity_0f7a4_51 : decode cJ5_newCapacity_0f7a4 51 = .ok (.iload 5, 2) := by decide +kernel
theorem dJ5_newCapacity_0f7a4_53 : decode cJ5_newCapacity_0f7a4 53 = .ok (.aload_n 0, 1) := by decide +kernel
theorem dJ5_newCapacity_0f7a4_54 : decode cJ5_newCapacity_0f7a4 54 = .ok (.getfield 22, 3) := by decide +kernel
theorem dJ5_newCapacity_0f7a4_57 : decode cJ5_newCapacity_0f7a4 57 = .ok (.ishr, 1) := by decide +kernel
theorem dJ5_newCapacity_0f7a4_58 : decode cJ5_newCapacity_0f7a4 58 = .ok (.ireturn, 1) := by decide +kernel
theorem dJ5_inflate_da8c8_0 : decode cJ5_inflate_da8c8 0 = .ok (.aload_n 0, 1) := by decide +kernel
theorem dJ5_inflate_da8c8_1 : decode cJ5_inflate_da8c8 1 = .ok (.invokevirtual 83, 3) := by decide +kernel
theorem dJ5_inflate_da8c8_4 : decode cJ5_inflate_da8c8 4 = .ok (.ifCond .ne 4, 3) := by decide +kernel
theorem dJ5_inflate_da8c8_7 : decode cJ5_inflate_da8c8 7 = .ok (.return_, 1) := by decide +kernel
theorem dJ5_inflate_da8c8_8 : decode cJ5_inflate_da8c8 8 = .ok (.aload_n 0, 1) := by decide +kernel
theorem dJ5_inflate_da8c8_9 : decode cJ5_inflate_da8c8 9 = .ok (.getfield 15, 3) := by decide +kernel
theorem dJ5_inflate_da8c8_12 : decode cJ5_inflate_da8c8 12 = .ok (.arraylength, 1) := by decide +kernel
theorem dJ5_inflate_da8c8_13 : decode cJ5_inflate_da8c8 13 = .ok (.invokestatic 26, 3) := by decide +kernel
theorem dJ5_inflate_da8c8_16 : decode cJ5_inflate_da8c8 16 = .ok (.astore_n 1, 1) := by decide +kernel
theorem dJ5_inflate_da8c8_17 : decode cJ5_inflate_da8c8 17 = .ok (.aload_n 0, 1) := by decide +kernel
theorem dJ5_inflate_da8c8_18 : decode cJ5_inflate_da8c8 18 = .ok (.getfield 15, 3) := by decide +kernel
theorem dJ5_inflate_da8c8_21 : decode cJ5_inflate_da8c8 21 = .ok (.iconst 0, 1) := by decide +kernel
theorem dJ5_inflate_da8c8_22 : decode cJ5_inflate_da8c8 22 = .ok (.aload_n 1, 1) := by decide +kernel
theorem dJ5_inflate_da8c8_23 : decode cJ5_inflate_da8c8 23 = .ok (.iconst 0, 1) := by decide +kernel
theorem dJ5_inflate_da8c8_24 : decode cJ5_inflate_da8c8 24 = .ok (.aload_n 0, 1) := by decide +kernel
theorem dJ5_inflate_da8c8_25 : decode cJ5_inflate_da8c8 25 = .ok (.getfield 79, 3) := by decide +kernel
theorem dJ5_inflate_da8c8_28 : decode cJ5_inflate_da8c8 28 = .ok (.invokestatic 125, 3) := by decide +kernel
theorem dJ5_inflate_da8c8_31 : decode cJ5_inflate_da8c8 31 = .ok (.aload_n 0, 1) := by decide +kernel
theorem dJ5_inflate_da8c8_32 : decode cJ5_inflate_da8c8 32 = .ok (.aload_n 1, 1) := by decide +kernel
theorem dJ5_inflate_da8c8_33 : decode cJ5_inflate_da8c8 33 = .ok (.putfield 15, 3) := by decide +kernel
theorem dJ5_inflate_da8c8_36 : decode cJ5_inflate_da8c8 36 = .ok (.aload_n 0, 1) := by decide +kernel
theorem dJ5_inflate_da8c8_37 : decode cJ5_inflate_da8c8 37 = .ok (.iconst 1, 1) := by decide +kernel
theorem dJ5_inflate_da8c8_38 : decode cJ5_inflate_da8c8 38 = .ok (.putfield 22, 3) := by decide +kernel
theorem dJ5_inflate_da8c8_41 : decode cJ5_inflate_da8c8 41 = .ok (.return_, 1) := by decide +kernel
theorem dJ5_setLength_d00df_0 : decode cJ5_setLength_d00df 0 = .ok (.iload_n 1, 1) := by decide +kernel
theorem dJ5_setLength_d00df_1 : decode cJ5_setLength_d00df 1 = .ok (.ifCond .ge 12, 3) := by decide +kernel
theorem dJ5_setLength_d00df_4 : decode cJ5_setLength_d00df 4 = .ok (.new 129, 3) := by decide +kernel
theorem dJ5_setLength_d00df_7 : decode cJ5_setLength_d00df 7 = .ok (.dup, 1) := by decide +kernel
theorem dJ5_setLength_d00df_8 : decode cJ5_setLength_d00df 8 = .ok (.iload_n 1, 1) := by decide +kernel
theorem dJ5_setLength_d00df_9 : decode cJ5_setLength_d00df 9 = .ok (.invokespecial 131, 3) := by decide +kernel
theorem dJ5_setLength_d00df_12 : decode cJ5_setLength_d00df 12 = .ok (.athrow, 1) := by decide +kernel
theorem dJ5_setLength_d00df_13 : decode cJ5_setLength_d00df 13 = .ok (.aload_n 0, 1) := by decide +kernel
theorem dJ5_setLength_d00df_14 : decode cJ5_setLength_d00df 14 = .ok (.iload_n 1, 1) := by decide +kernel
theorem dJ5_setLength_d00df_15 : decode cJ5_setLength_d00df 15 = .ok (.invokevirtual 100, 3) := by decide +kernel
theorem dJ5_setLength_d00df_18 : decode cJ5_setLength_d00df 18 = .ok (.aload_n 0, 1) := by decide +kernel
theorem dJ5_setLength_d00df_19 : decode cJ5_setLength_d00df 19 = .ok (.getfield 79, 3) := by decide +kernel
theorem dJ5_setLength_d00df_22 : decode cJ5_setLength_d00df 22 = .ok (.iload_n 1, 1) := by decide +kernel
theorem dJ5_setLength_d00df_23 : decode cJ5_setLength_d00df 23 = .ok (.if_icmp .ge 40, 3) := by decide +kernel
theorem dJ5_setLength_d00df_26 : decode cJ5_setLength_d00df 26 = .ok (.aload_n 0, 1) := by decide +kernel
theorem dJ5_setLength_d00df_27 : decode cJ5_setLength_d00df 27 = .ok (.invokevirtual 83, 3) := by decide +kernel
theorem dJ5_setLength_d00df_30 : decode cJ5_setLength_d00df 30 = .ok (.ifCond .eq 18, 3) := by decide +kernel
theorem dJ5_setLength_d00df_33 : decode cJ5_setLength_d00df 33 = .ok (.aload_n 0, 1) := by decide +kernel
theorem dJ5_setLength_d00df_34 : decode cJ5_setLength_d00df 34 = .ok (.getfield 15, 3) := by decide +kernel
theorem dJ5_setLength_d00df_37 : decode cJ5_setLength_d00df 37 = .ok (.aload_n 0, 1) := by decide +kernel
theorem dJ5_setLength_d00df_38 : decode cJ5_setLength_d00df 38 = .ok (.getfield 79, 3) := by decide +kernel
theorem dJ5_setLength_d00df_41 : decode cJ5_setLength_d00df 41 = .ok (.iload_n 1, 1) := by decide +kernel
theorem dJ5_setLength_d00df_42 : decode cJ5_setLength_d00df 42 = .ok (.invokestatic 133, 3) := by decide +kernel
theorem dJ5_setLength_d00df_45 : decode cJ5_setLength_d00df 45 = .ok (.goto 31, 3) := by decide +kernel
theorem dJ5_setLength_d00df_48 : decode cJ5_setLength_d00df 48 = .ok (.aload_n 0, 1) := by decide +kernel
theorem dJ5_setLength_d00df_49 : decode cJ5_setLength_d00df 49 = .ok (.getfield 15, 3) := by decide +kernel
theorem dJ5_setLength_d00df_52 : decode cJ5_setLength_d00df 52 = .ok (.aload_n 0, 1) := by decide +kernel
theorem dJ5_setLength_d00df_53 : decode cJ5_setLength_d00df 53 = .ok (.getfield 79, 3) := by decide +kernel
theorem dJ5_setLength_d00df_56 : decode cJ5_setLength_d00df 56 = .ok (.iload_n 1, 1) := by decide +kernel
theorem dJ5_setLength_d00df_57 : decode cJ5_setLength_d00df 57 = .ok (.invokestatic 137, 3) := by decide +kernel
theorem dJ5_setLength_d00df_60 : decode cJ5_setLength_d00df 60 = .ok (.goto 16, 3) := by decide +kernel
theorem dJ5_setLength_d00df_63 : decode cJ5_setLength_d00df 63 = .ok (.aload_n 0, 1) := by decide +kernel
theorem dJ5_setLength_d00df_64 : decode cJ5_setLength_d00df 64 = .ok (.getfield 79, 3) := by decide +kernel
theorem dJ5_setLength_d00df_67 : decode cJ5_setLength_d00df 67 = .ok (.iload_n 1, 1) := by decide +kernel
theorem dJ5_setLength_d00df_68 : decode cJ5_setLength_d00df 68 = .ok (.if_icmp .le 8, 3) := by decide +kernel
theorem dJ5_setLength_d00df_71 : decode cJ5_setLength_d00df 71 = .ok (.aload_n 0, 1) := by decide +kernel
theorem dJ5_setLength_d00df_72 : decode cJ5_setLength_d00df 72 = .ok (.iconst 1, 1) := by decide +kernel
theorem dJ5_setLength_d00df_73 : decode cJ5_setLength_d00df 73 = .ok (.putfield 73, 3) := by decide +kernel
theorem dJ5_setLength_d00df_76 : decode cJ5_setLength_d00df 76 = .ok (.aload_n 0, 1) := by decide +kernel
theorem dJ5_setLength_d00df_77 : decode cJ5_setLength_d00df 77 = .ok (.iload_n 1, 1) := by decide +kernel
theorem dJ5_setLength_d00df_78 : decode cJ5_setLength_d00df 78 = .ok (.putfield 79, 3) := by decide +kernel
theorem dJ5_setLength_d00df_81 : decode cJ5_setLength_d00df 81 = .ok (.return_, 1) := by decide +kernel
theorem dJ5_charAt_5068e_0 : decode cJ5_charAt_5068e 0 = .ok (.aload_n 0, 1) := by decide +kernel
theorem dJ5_charAt_5068e_1 : decode cJ5_charAt_5068e 1 = .ok (.getfield 22, 3) := by decide +kernel
theorem dJ5_charAt_5068e_4 : decode cJ5_charAt_5068e 4 = .ok (.istore_n 2, 1) := by decide +kernel
theorem dJ5_charAt_5068e_5 : decode cJ5_charAt_5068e 5 = .ok (.aload_n 0, 1) := by decide +kernel
theorem dJ5_charAt_5068e_6 : decode cJ5_charAt_5068e 6 = .ok (.getfield 15, 3) := by decide +kernel
theorem dJ5_charAt_5068e_9 : decode cJ5_charAt_5068e 9 = .ok (.astore_n 3, 1) := by decide +kernel
theorem dJ5_charAt_5068e_10 : decode cJ5_charAt_5068e 10 = .ok (.aload_n 0, 1) := by decide +kernel
theorem dJ5_charAt_5068e_11 : decode cJ5_charAt_5068e 11 = .ok (.getfield 79, 3) := by decide +kernel
theorem dJ5_charAt_5068e_14 : decode cJ5_charAt_5068e 14 = .ok (.aload_n 3, 1) := by decide +kernel
theorem dJ5_charAt_5068e_15 : decode cJ5_charAt_5068e 15 = .ok (.arraylength, 1) := by decide +kernel
theorem dJ5_charAt_5068e_16 : decode cJ5_charAt_5068e 16 = .ok (.iload_n 2, 1) := by decide +kernel
theorem dJ5_charAt_5068e_17 : decode cJ5_charAt_5068e 17 = .ok (.ishr, 1) := by decide +kernel
theorem dJ5_charAt_5068e_18 : decode cJ5_charAt_5068e 18 = .ok (.invokestatic 138, 3) := by decide +kernel
theorem dJ5_charAt_5068e_21 : decode cJ5_charAt_5068e 21 = .ok (.istore 4, 2) := by decide +kernel
theorem dJ5_charAt_5068e_23 : decode cJ5_charAt_5068e 23 = .ok (.iload_n 1, 1) := by decide +kernel
theorem dJ5_charAt_5068e_24 : decode cJ5_charAt_5068e 24 = .ok (.iload 4, 2) := by decide +kernel
theorem dJ5_charAt_5068e_26 : decode cJ5_charAt_5068e 26 = .ok (.invokestatic 144, 3) := by decide +kernel
theorem dJ5_charAt_5068e_29 : decode cJ5_charAt_5068e 29 = .ok (.iload_n 2, 1) := by decide +kernel
theorem dJ5_charAt_5068e_30 : decode cJ5_charAt_5068e 30 = .ok (.ifCond .ne 12, 3) := by decide +kernel
theorem dJ5_charAt_5068e_33 : decode cJ5_charAt_5068e 33 = .ok (.aload_n 3, 1) := by decide +kernel
theorem dJ5_charAt_5068e_34 : decode cJ5_charAt_5068e 34 = .ok (.iload_n 1, 1) := by decide +kernel
theorem dJ5_charAt_5068e_35 : decode cJ5_charAt_5068e 35 = .ok (.baload, 1) := by decide +kernel
theorem dJ5_charAt_5068e_36 : decode cJ5_charAt_5068e 36 = .ok (.sipush 255, 3) := by decide +kernel
theorem dJ5_charAt_5068e_39 : decode cJ5_charAt_5068e 39 = .ok (.iand, 1) := by decide +kernel
theorem dJ5_charAt_5068e_40 : decode cJ5_charAt_5068e 40 = .ok (.i2c, 1) := by decide +kernel
theorem dJ5_charAt_5068e_41 : decode cJ5_charAt_5068e 41 = .ok (.ireturn, 1) := by decide +kernel
theorem dJ5_charAt_5068e_42 : decode cJ5_charAt_5068e 42 = .ok (.aload_n 3, 1) := by decide +kernel
theorem dJ5_charAt_5068e_43 : decode cJ5_charAt_5068e 43 = .ok (.iload_n 1, 1) := by decide +kernel
theorem dJ5_charAt_5068e_44 : decode cJ5_charAt_5068e 44 = .ok (.invokestatic 148, 3) := by decide +kernel
theorem dJ5_charAt_5068e_47 : decode cJ5_charAt_5068e 47 = .ok (.ireturn, 1) := by decide +kernel
theorem dJ5_append_cf1ce_0 : decode cJ5_append_cf1ce 0 = .ok (.aload_n 1, 1) := by decide +kernel
theorem dJ5_append_cf1ce_1 : decode cJ5_append_cf1ce 1 = .ok (.ifnonnull 8, 3) := by decide +kernel
theorem dJ5_append_cf1ce_4 : decode cJ5_append_cf1ce 4 = .ok (.aload_n 0, 1) := by decide +kernel
theorem dJ5_append_cf1ce_5 : decode cJ5_append_cf1ce 5 = .ok (.invokevirtual 204, 3) := by decide +kernel
theorem dJ5_append_cf1ce_8 : decode cJ5_append_cf1ce 8 = .ok (.areturn, 1) := by decide +kernel
theorem dJ5_append_cf1ce_9 : decode cJ5_append_cf1ce 9 = .ok (.aload_n 1, 1) := by decide +kernel
theorem dJ5_append_cf1ce_10 : decode cJ5_append_cf1ce 10 = .ok (.invokevirtual 32, 3) := by decide +kernel
theorem dJ5_append_cf1ce_13 : decode cJ5_append_cf1ce 13 = .ok (.istore_n 2, 1) := by decide +kernel
theorem dJ5_append_cf1ce_14 : decode cJ5_append_cf1ce 14 = .ok (.aload_n 0, 1) := by decide +kernel
theorem dJ5_append_cf1ce_15 : decode cJ5_append_cf1ce 15 = .ok (.aload_n 0, 1) := by decide +kernel
theorem dJ5_append_cf1ce_16 : decode cJ5_append_cf1ce 16 = .ok (.getfield 79, 3) := by decide +kernel
theorem dJ5_append_cf1ce_19 : decode cJ5_append_cf1ce 19 = .ok (.iload_n 2, 1) := by decide +kernel
theorem dJ5_append_cf1ce_20 : decode cJ5_append_cf1ce 20 = .ok (.iadd, 1) := by decide +kernel
theorem dJ5_append_cf1ce_21 : decode cJ5_append_cf1ce 21 = .ok (.invokevirtual 100, 3) := by decide +kernel
theorem dJ5_append_cf1ce_24 : decode cJ5_append_cf1ce 24 = .ok (.aload_n 0, 1) := by decide +kernel
theorem dJ5_append_cf1ce_25 : decode cJ5_append_cf1ce 25 = .ok (.aload_n 0, 1) := by decide +kernel
theorem dJ5_append_cf1ce_26 : decode cJ5_append_cf1ce 26 = .ok (.getfield 79, 3) := by decide +kernel
theorem dJ5_append_cf1ce_29 : decode cJ5_append_cf1ce 29 = .ok (.aload_n 1, 1) := by decide +kernel
theorem dJ5_append_cf1ce_30 : decode cJ5_append_cf1ce 30 = .ok (.invokevirtual 208, 3) := by decide +kernel
theorem dJ5_append_cf1ce_33 : decode cJ5_append_cf1ce 33 = .ok (.aload_n 0, 1) := by decide +kernel
theorem dJ5_append_cf1ce_34 : decode cJ5_append_cf1ce 34 = .ok (.dup, 1) := by decide +kernel
theorem dJ5_append_cf1ce_35 : decode cJ5_append_cf1ce 35 = .ok (.getfield 79, 3) := by decide +kernel
theorem dJ5_append_cf1ce_38 : decode cJ5_append_cf1ce 38 = .ok (.iload_n 2, 1) := by decide +kernel
theorem dJ5_append_cf1ce_39 : decode cJ5_append_cf1ce 39 = .ok (.iadd, 1) := by decide +kernel
theorem dJ5_append_cf1ce_40 : decode cJ5_append_cf1ce 40 = .ok (.putfield 79, 3) := by decide +kernel
theorem dJ5_append_cf1ce_43 : decode cJ5_append_cf1ce 43 = .ok (.aload_n 0, 1) := by decide +kernel
theorem dJ5_append_cf1ce_44 : decode cJ5_append_cf1ce 44 = .ok (.areturn, 1) := by decide +kernel
theorem dJ5_appendNull_278bc_0 : decode cJ5_appendNull_278bc 0 = .ok (.aload_n 0, 1) := by decide +kernel
theorem dJ5_appendNull_278bc_1 : decode cJ5_appendNull_278bc 1 = .ok (.aload_n 0, 1) := by decide +kernel
theorem dJ5_appendNull_278bc_2 : decode cJ5_appendNull_278bc 2 = .ok (.getfield 79, 3) := by decide +kernel
theorem dJ5_appendNull_278bc_5 : decode cJ5_appendNull_278bc 5 = .ok (.iconst 4, 1) := by decide +kernel
theorem dJ5_appendNull_278bc_6 : decode cJ5_appendNull_278bc 6 = .ok (.iadd, 1) := by decide +kernel
theorem dJ5_appendNull_278bc_7 : decode cJ5_appendNull_278bc 7 = .ok (.invokevirtual 100, 3) := by decide +kernel
theorem dJ5_appendNull_278bc_10 : decode cJ5_appendNull_278bc 10 = .ok (.aload_n 0, 1) := by decide +kernel
theorem dJ5_appendNull_278bc_11 : decode cJ5_appendNull_278bc 11 = .ok (.getfield 79, 3) := by decide +kernel
theorem dJ5_appendNull_278bc_14 : decode cJ5_appendNull_278bc 14 = .ok (.istore_n 1, 1) := by decide +kernel
theorem dJ5_appendNull_278bc_15 : decode cJ5_appendNull_278bc 15 = .ok (.aload_n 0, 1) := by decide +kernel
theorem dJ5_appendNull_278bc_16 : decode cJ5_appendNull_278bc 16 = .ok (.getfield 15, 3) := by decide +kernel
theorem dJ5_appendNull_278bc_19 : decode cJ5_appendNull_278bc 19 = .ok (.astore_n 2, 1) := by decide +kernel
theorem dJ5_appendNull_278bc_20 : decode cJ5_appendNull_278bc 20 = .ok (.aload_n 0, 1) := by decide +kernel
theorem dJ5_appendNull_278bc_21 : decode cJ5_appendNull_278bc 21 = .ok (.invokevirtual 83, 3) := by decide +kernel
theorem dJ5_appendNull_278bc_24 : decode cJ5_appendNull_278bc 24 = .ok (.ifCond .eq 38, 3) := by decide +kernel
theorem dJ5_appendNull_278bc_27 : decode cJ5_appendNull_278bc 27 = .ok (.aload_n 2, 1) := by decide +kernel
theorem dJ5_appendNull_278bc_28 : decode cJ5_appendNull_278bc 28 = .ok (.iload_n 1, 1) := by decide +kernel
theorem dJ5_appendNull_278bc_29 : decode cJ5_appendNull_278bc 29 = .ok (.iinc 1 1, 3) := by decide +kernel
theorem dJ5_appendNull_278bc_32 : decode cJ5_appendNull_278bc 32 = .ok (.bipush 110, 2) := by decide +kernel
theorem dJ5_appendNull_278bc_34 : decode cJ5_appendNull_278bc 34 = .ok (.bastore, 1) := by decide +kernel
theorem dJ5_appendNull_278bc_35 : decode cJ5_appendNull_278bc 35 = .ok (.aload_n 2, 1) := by decide +kernel
theorem dJ5_appendNull_278bc_36 : decode cJ5_appendNull_278bc 36 = .ok (.iload_n 1, 1) := by decide +kernel
theorem dJ5_appendNull_278bc_37 : decode cJ5_appendNull_278bc 37 = .ok (.iinc 1 1, 3) := by decide +kernel
theorem dJ5_appendNull_278bc_40 : decode cJ5_appendNull_278bc 40 = .ok (.bipush 117, 2) := by decide +kernel
theorem dJ5_appendNull_278bc_42 : decode cJ5_appendNull_278bc 42 = .ok (.bastore, 1) := by decide +kernel
theorem dJ5_appendNull_278bc_43 : decode cJ5_appendNull_278bc 43 = .ok (.aload_n 2, 1) := by decide +kernel
theorem dJ5_appendNull_278bc_44 : decode cJ5_appendNull_278bc 44 = .ok (.iload_n 1, 1) := by decide +kernel
theorem dJ5_appendNull_278bc_45 : decode cJ5_appendNull_278bc 45 = .ok (.iinc 1 1, 3) := by decide +kernel
theorem dJ5_appendNull_278bc_48 : decode cJ5_appendNull_278bc 48 = .ok (.bipush 108, 2) := by decide +kernel
theorem dJ5_appendNull_278bc_50 : decode cJ5_appendNull_278bc 50 = .ok (.bastore, 1) := by decide +kernel
theorem dJ5_appendNull_278bc_51 : decode cJ5_appendNull_278bc 51 = .ok (.aload_n 2, 1) := by decide +kernel
theorem dJ5_appendNull_278bc_52 : decode cJ5_appendNull_278bc 52 = .ok (.iload_n 1, 1) := by decide +kernel
theorem dJ5_appendNull_278bc_53 : decode cJ5_appendNull_278bc 53 = .ok (.iinc 1 1, 3) := by decide +kernel
theorem dJ5_appendNull_278bc_56 : decode cJ5_appendNull_278bc 56 = .ok (.bipush 108, 2) := by decide +kernel
theorem dJ5_appendNull_278bc_58 : decode cJ5_appendNull_278bc 58 = .ok (.bastore, 1) := by decide +kernel
theorem dJ5_appendNull_278bc_59 : decode cJ5_appendNull_278bc 59 = .ok (.goto 17, 3) := by decide +kernel
theorem dJ5_appendNull_278bc_62 : decode cJ5_appendNull_278bc 62 = .ok (.aload_n 2, 1) := by decide +kernel
theorem dJ5_appendNull_278bc_63 : decode cJ5_appendNull_278bc 63 = .ok (.iload_n 1, 1) := by decide +kernel
theorem dJ5_appendNull_278bc_64 : decode cJ5_appendNull_278bc 64 = .ok (.bipush 110, 2) := by decide +kernel
theorem dJ5_appendNull_278bc_66 : decode cJ5_appendNull_278bc 66 = .ok (.bipush 117, 2) := by decide +kernel
theorem dJ5_appendNull_278bc_68 : decode cJ5_appendNull_278bc 68 = .ok (.bipush 108, 2) := by decide +kernel
theorem dJ5_appendNull_278bc_70 : decode cJ5_appendNull_278bc 70 = .ok (.bipush 108, 2) := by decide +kernel
theorem dJ5_appendNull_278bc_72 : decode cJ5_appendNull_278bc 72 = .ok (.invokestatic 226, 3) := by decide +kernel
theorem dJ5_appendNull_278bc_75 : decode cJ5_appendNull_278bc 75 = .ok (.istore_n 1, 1) := by decide +kernel
theorem dJ5_appendNull_278bc_76 : decode cJ5_appendNull_278bc 76 = .ok (.aload_n 0, 1) := by decide +kernel
theorem dJ5_appendNull_278bc_77 : decode cJ5_appendNull_278bc 77 = .ok (.iload_n 1, 1) := by decide +kernel
theorem dJ5_appendNull_278bc_78 : decode cJ5_appendNull_278bc 78 = .ok (.putfield 79, 3) := by decide +kernel
theorem dJ5_appendNull_278bc_81 : decode cJ5_appendNull_278bc 81 = .ok (.aload_n 0, 1) := by decide +kernel
theorem dJ5_appendNull_278bc_82 : decode cJ5_appendNull_278bc 82 = .ok (.areturn, 1) := by decide +kernel
theorem dJ5_append_c97b9_0 : decode cJ5_append_c97b9 0 = .ok (.aload_n 0, 1) := by decide +kernel
theorem dJ5_append_c97b9_1 : decode cJ5_append_c97b9 1 = .ok (.getfield 79, 3) := by decide +kernel
theorem dJ5_append_c97b9_4 : decode cJ5_append_c97b9 4 = .ok (.istore_n 2, 1) := by decide +kernel
theorem dJ5_append_c97b9_5 : decode cJ5_append_c97b9 5 = .ok (.iload_n 2, 1) := by decide +kernel
theorem dJ5_append_c97b9_6 : decode cJ5_append_c97b9 6 = .ok (.iload_n 1, 1) := by decide +kernel
theorem dJ5_append_c97b9_7 : decode cJ5_append_c97b9 7 = .ok (.invokestatic 245, 3) := by decide +kernel
theorem dJ5_append_c97b9_10 : decode cJ5_append_c97b9 10 = .ok (.iadd, 1) := by decide +kernel
theorem dJ5_append_c97b9_11 : decode cJ5_append_c97b9 11 = .ok (.istore_n 3, 1) := by decide +kernel
theorem dJ5_append_c97b9_12 : decode cJ5_append_c97b9 12 = .ok (.aload_n 0, 1) := by decide +kernel
theorem dJ5_append_c97b9_13 : decode cJ5_append_c97b9 13 = .ok (.iload_n 3, 1) := by decide +kernel
theorem dJ5_append_c97b9_14 : decode cJ5_append_c97b9 14 = .ok (.invokevirtual 100, 3) := by decide +kernel
theorem dJ5_append_c97b9_17 : decode cJ5_append_c97b9 17 = .ok (.aload_n 0, 1) := by decide +kernel
theorem dJ5_append_c97b9_18 : decode cJ5_append_c97b9 18 = .ok (.invokevirtual 83, 3) := by decide +kernel
theorem dJ5_append_c97b9_21 : decode cJ5_append_c97b9 21 = .ok (.ifCond .eq 16, 3) := by decide +kernel
theorem dJ5_append_c97b9_24 : decode cJ5_append_c97b9 24 = .ok (.iload_n 1, 1) := by decide +kernel
theorem dJ5_append_c97b9_25 : decode cJ5_append_c97b9 25 = .ok (.iload_n 3, 1) := by decide +kernel
theorem dJ5_append_c97b9_26 : decode cJ5_append_c97b9 26 = .ok (.aload_n 0, 1) := by decide +kernel
theorem dJ5_append_c97b9_27 : decode cJ5_append_c97b9 27 = .ok (.getfield 15, 3) := by decide +kernel
theorem dJ5_append_c97b9_30 : decode cJ5_append_c97b9 30 = .ok (.invokestatic 248, 3) := by decide +kernel
theorem dJ5_append_c97b9_33 : decode cJ5_append_c97b9 33 = .ok (.pop, 1) := by decide +kernel
theorem dJ5_append_c97b9_34 : decode cJ5_append_c97b9 34 = .ok (.goto 14, 3) := by decide +kernel
theorem dJ5_append_c97b9_37 : decode cJ5_append_c97b9 37 = .ok (.iload_n 1, 1) := by decide +kernel
theorem dJ5_append_c97b9_38 : decode cJ5_append_c97b9 38 = .ok (.iload_n 2, 1) := by decide +kernel
theorem dJ5_append_c97b9_39 : decode cJ5_append_c97b9 39 = .ok (.iload_n 3, 1) := by decide +kernel
theorem dJ5_append_c97b9_40 : decode cJ5_append_c97b9 40 = .ok (.aload_n 0, 1) := by decide +kernel
theorem dJ5_append_c97b9_41 : decode cJ5_append_c97b9 41 = .ok (.getfield 15, 3) := by decide +kernel
theorem dJ5_append_c97b9_44 : decode cJ5_append_c97b9 44 = .ok (.invokestatic 251, 3) := by decide +kernel
theorem dJ5_append_c97b9_47 : decode cJ5_append_c97b9 47 = .ok (.pop, 1) := by decide +kernel
theorem dJ5_append_c97b9_48 : decode cJ5_append_c97b9 48 = .ok (.aload_n 0, 1) := by decide +kernel
theorem dJ5_append_c97b9_49 : decode cJ5_append_c97b9 49 = .ok (.iload_n 3, 1) := by decide +kernel
theorem dJ5_append_c97b9_50 : decode cJ5_append_c97b9 50 = .ok (.putfield 79, 3) := by decide +kernel
theorem dJ5_append_c97b9_53 : decode cJ5_append_c97b9 53 = .ok (.aload_n 0, 1) := by decide +kernel
theorem dJ5_append_c97b9_54 : decode cJ5_append_c97b9 54 = .ok (.areturn, 1) := by decide +kernel
theorem dJ5_getValue_6d5f1_0 : decode cJ5_getValue_6d5f1 0 = .ok (.aload_n 0, 1) := by decide +kernel
theorem dJ5_getValue_6d5f1_1 : decode cJ5_getValue_6d5f1 1 = .ok (.getfield 15, 3) := by decide +kernel
theorem dJ5_getValue_6d5f1_4 : decode cJ5_getValue_6d5f1 4 = .ok (.areturn, 1) := by decide +kernel
theorem dJ5_isLatin1_aae02_0 : decode cJ5_isLatin1_aae02 0 = .ok (.getstatic 18, 3) := by decide +kernel
theorem dJ5_isLatin1_aae02_3 : decode cJ5_isLatin1_aae02 3 = .ok (.ifCond .eq 14, 3) := by decide +kernel
theorem dJ5_isLatin1_aae02_6 : decode cJ5_isLatin1_aae02 6 = .ok (.aload_n 0, 1) := by decide +kernel
theorem dJ5_isLatin1_aae02_7 : decode cJ5_isLatin1_aae02 7 = .ok (.getfield 22, 3) := by decide +kernel
theorem dJ5_isLatin1_aae02_10 : decode cJ5_isLatin1_aae02 10 = .ok (.ifCond .ne 7, 3) := by decide +kernel
theorem dJ5_isLatin1_aae02_13 : decode cJ5_isLatin1_aae02 13 = .ok (.iconst 1, 1) := by decide +kernel
theorem dJ5_isLatin1_aae02_14 : decode cJ5_isLatin1_aae02 14 = .ok (.goto 4, 3) := by decide +kernel
theorem dJ5_isLatin1_aae02_17 : decode cJ5_isLatin1_aae02 17 = .ok (.iconst 0, 1) := by decide +kernel
theorem dJ5_isLatin1_aae02_18 : decode cJ5_isLatin1_aae02 18 = .ok (.ireturn, 1) := by decide +kernel
theorem dJ5_inflateIfNeededFor_a7421_0 : decode cJ5_inflateIfNeededFor_a7421 0 = .ok (.getstatic 18, 3) := by decide +kernel
theorem dJ5_inflateIfNeededFor_a7421_3 : decode cJ5_inflateIfNeededFor_a7421 3 = .ok (.ifCond .eq 18, 3) := by decide +kernel
theorem dJ5_inflateIfNeededFor_a7421_6 : decode cJ5_inflateIfNeededFor_a7421 6 = .ok (.aload_n 0, 1) := by decide +kernel
theorem dJ5_inflateIfNeededFor_a7421_7 : decode cJ5_inflateIfNeededFor_a7421 7 = .ok (.getfield 22, 3) := by decide +kernel
theorem dJ5_inflateIfNeededFor_a7421_10 : decode cJ5_inflateIfNeededFor_a7421 10 = .ok (.aload_n 1, 1) := by decide +kernel
theorem dJ5_inflateIfNeededFor_a7421_11 : decode cJ5_inflateIfNeededFor_a7421 11 = .ok (.invokevirtual 40, 3) := by decide +kernel
theorem dJ5_inflateIfNeededFor_a7421_14 : decode cJ5_inflateIfNeededFor_a7421 14 = .ok (.if_icmp .eq 7, 3) := by decide +kernel
theorem dJ5_inflateIfNeededFor_a7421_17 : decode cJ5_inflateIfNeededFor_a7421 17 = .ok (.aload_n 0, 1) := by decide +kernel
theorem dJ5_inflateIfNeededFor_a7421_18 : decode cJ5_inflateIfNeededFor_a7421 18 = .ok (.invokevirtual 195, 3) := by decide +kernel
theorem dJ5_inflateIfNeededFor_a7421_21 : decode cJ5_inflateIfNeededFor_a7421 21 = .ok (.return_, 1) := by decide +kernel
theorem dJ5_putStringAt_47b60_0 : decode cJ5_putStringAt_47b60 0 = .ok (.aload_n 0, 1) := by decide +kernel
theorem dJ5_putStringAt_47b60_1 : decode cJ5_putStringAt_47b60 1 = .ok (.aload_n 2, 1) := by decide +kernel
theorem dJ5_putStringAt_47b60_2 : decode cJ5_putStringAt_47b60 2 = .ok (.invokevirtual 397, 3) := by decide +kernel
theorem dJ5_putStringAt_47b60_5 : decode cJ5_putStringAt_47b60 5 = .ok (.aload_n 2, 1) := by decide +kernel
theorem dJ5_putStringAt_47b60_6 : decode cJ5_putStringAt_47b60 6 = .ok (.aload_n 0, 1) := by decide +kernel
theorem dJ5_putStringAt_47b60_7 : decode cJ5_putStringAt_47b60 7 = .ok (.getfield 15, 3) := by decide +kernel
theorem dJ5_putStringAt_47b60_10 : decode cJ5_putStringAt_47b60 10 = .ok (.iload_n 1, 1) := by decide +kernel
theorem dJ5_putStringAt_47b60_11 : decode cJ5_putStringAt_47b60 11 = .ok (.aload_n 0, 1) := by decide +kernel
theorem dJ5_putStringAt_47b60_12 : decode cJ5_putStringAt_47b60 12 = .ok (.getfield 22, 3) := by decide +kernel
theorem dJ5_putStringAt_47b60_15 : decode cJ5_putStringAt_47b60 15 = .ok (.invokevirtual 399, 3) := by decide +kernel
theorem dJ5_putStringAt_47b60_18 : decode cJ5_putStringAt_47b60 18 = .ok (.return_, 1) := by decide +kernel
theorem dJx00060_init_a7421_0 : decode cJx00060_init_a7421 0 = .ok (.aload_n 0, 1) := by decide +kernel
theorem dJx00060_init_a7421_1 : decode cJx00060_init_a7421 1 = .ok (.aload_n 1, 1) := by decide +kernel
theorem dJx00060_init_a7421_2 : decode cJx00060_init_a7421 2 = .ok (.invokespecial 7, 3) := by decide +kernel
theorem dJx00060_init_a7421_5 : decode cJx00060_init_a7421 5 = .ok (.return_, 1) := by decide +kernel
theorem dJx00060_init_d00df_0 : decode cJx00060_init_d00df 0 = .ok (.aload_n 0, 1) := by decide +kernel
theorem dJx00060_init_d00df_1 : decode cJx00060_init_d00df 1 = .ok (.new 10, 3) := by decide +kernel
theorem dJx00060_init_d00df_4 : decode cJx00060_init_d00df 4 = .ok (.dup, 1) := by decide +kernel
theorem dJx00060_init_d00df_5 : decode cJx00060_init_d00df 5 = .ok (.invokespecial 12, 3) := by decide +kernel
theorem dJx00060_init_d00df_8 : decode cJx00060_init_d00df 8 = .ok (.ldc 13, 2) := by decide +kernel
theorem dJx00060_init_d00df_10 : decode cJx00060_init_d00df 10 = .ok (.invokevirtual 15, 3) := by decide +kernel
theorem dJx00060_init_d00df_13 : decode cJx00060_init_d00df 13 = .ok (.iload_n 1, 1) := by decide +kernel
theorem dJx00060_init_d00df_14 : decode cJx00060_init_d00df 14 = .ok (.invokevirtual 19, 3) := by decide +kernel
theorem dJx00060_init_d00df_17 : decode cJx00060_init_d00df 17 = .ok (.invokevirtual 22, 3) := by decide +kernel
theorem dJx00060_init_d00df_20 : decode cJx00060_init_d00df 20 = .ok (.invokespecial 7, 3) := by decide +kernel
theorem dJx00060_init_d00df_23 : decode cJx00060_init_d00df 23 = .ok (.return_, 1) := by decide +kernel
theorem dJ6_getChars_ba4f3_0 : decode cJ6_getChars_ba4f3 0 = .ok (.iload_n 1, 1) := by decide +kernel
theorem dJ6_getChars_ba4f3_1 : decode cJ6_getChars_ba4f3 1 = .ok (.istore 5, 2) := by decide +kernel
theorem dJ6_getChars_ba4f3_3 : decode cJ6_getChars_ba4f3 3 = .ok (.iload_n 0, 1) := by decide +kernel
theorem dJ6_getChars_ba4f3_4 : decode cJ6_getChars_ba4f3 4 = .ok (.ifCond .ge 7, 3) := by decide +kernel
theorem dJ6_getChars_ba4f3_7 : decode cJ6_getChars_ba4f3 7 = .ok (.iconst 1, 1) := by decide +kernel
theorem dJ6_getChars_ba4f3_8 : decode cJ6_getChars_ba4f3 8 = .ok (.goto 4, 3) := by decide +kernel
theorem dJ6_getChars_ba4f3_11 : decode cJ6_getChars_ba4f3 11 = .ok (.iconst 0, 1) := by decide +kernel
theorem dJ6_getChars_ba4f3_12 : decode cJ6_getChars_ba4f3 12 = .ok (.istore 6, 2) := by decide +kernel
theorem dJ6_getChars_ba4f3_14 : decode cJ6_getChars_ba4f3 14 = .ok (.iload 6, 2) := by decide +kernel
theorem dJ6_getChars_ba4f3_16 : decode cJ6_getChars_ba4f3 16 = .ok (.ifCond .ne 6, 3) := by decide +kernel
theorem dJ6_getChars_ba4f3_19 : decode cJ6_getChars_ba4f3 19 = .ok (.iload_n 0, 1) := by decide +kernel
theorem dJ6_getChars_ba4f3_20 : decode cJ6_getChars_ba4f3 20 = .ok (.ineg, 1) := by decide +kernel
theorem dJ6_getChars_ba4f3_21 : decode cJ6_getChars_ba4f3 21 = .ok (.istore_n 0, 1) := by decide +kernel
theorem dJ6_getChars_ba4f3_22 : decode cJ6_getChars_ba4f3 22 = .ok (.iload_n 0, 1) := by decide +kernel
theorem dJ6_getChars_ba4f3_23 : decode cJ6_getChars_ba4f3 23 = .ok (.bipush (-100), 2) := by decide +kernel
theorem dJ6_getChars_ba4f3_25 : decode cJ6_getChars_ba4f3 25 = .ok (.if_icmp .gt 47, 3) := by decide +kernel
theorem dJ6_getChars_ba4f3_28 : decode cJ6_getChars_ba4f3 28 = .ok (.iload_n 0, 1) := by decide +kernel
theorem dJ6_getChars_ba4f3_29 : decode cJ6_getChars_ba4f3 29 = .ok (.bipush 100, 2) := by decide +kernel
theorem dJ6_getChars_ba4f3_31 : decode cJ6_getChars_ba4f3 31 = .ok (.idiv, 1) := by decide +kernel
theorem dJ6_getChars_ba4f3_32 : decode cJ6_getChars_ba4f3 32 = .ok (.istore_n 3, 1) := by decide +kernel
theorem dJ6_getChars_ba4f3_33 : decode cJ6_getChars_ba4f3 33 = .ok (.iload_n 3, 1) := by decide +kernel
theorem dJ6_getChars_ba4f3_34 : decode cJ6_getChars_ba4f3 34 = .ok (.bipush 100, 2) := by decide +kernel
theorem dJ6_getChars_ba4f3_36 : decode cJ6_getChars_ba4f3 36 = .ok (.imul, 1) := by decide +kernel
theorem dJ6_getChars_ba4f3_37 : decode cJ6_getChars_ba4f3 37 = .ok (.iload_n 0, 1) := by decide +kernel
theorem dJ6_getChars_ba4f3_38 : decode cJ6_getChars_ba4f3 38 = .ok (.isub, 1) := by decide +kernel
theorem dJ6_getChars_ba4f3_39 : decode cJ6_getChars_ba4f3 39 = .ok (.istore 4, 2) := by decide +kernel
theorem dJ6_getChars_ba4f3_41 : decode cJ6_getChars_ba4f3 41 = .ok (.iload_n 3, 1) := by decide +kernel
theorem dJ6_getChars_ba4f3_42 : decode cJ6_getChars_ba4f3 42 = .ok (.istore_n 0, 1) := by decide +kernel
theorem dJ6_getChars_ba4f3_43 : decode cJ6_getChars_ba4f3 43 = .ok (.aload_n 2, 1) := by decide +kernel
theorem dJ6_getChars_ba4f3_44 : decode cJ6_getChars_ba4f3 44 = .ok (.iinc 5 (-1), 3) := by decide +kernel
theorem dJ6_getChars_ba4f3_47 : decode cJ6_getChars_ba4f3 47 = .ok (.iload 5, 2) := by decide +kernel
theorem dJ6_getChars_ba4f3_49 : decode cJ6_getChars_ba4f3 49 = .ok (.getstatic 83, 3) := by decide +kernel
theorem dJ6_getChars_ba4f3_52 : decode cJ6_getChars_ba4f3 52 = .ok (.iload 4, 2) := by decide +kernel
theorem dJ6_getChars_ba4f3_54 : decode cJ6_getChars_ba4f3 54 = .ok (.baload, 1) := by decide +kernel
theorem dJ6_getChars_ba4f3_55 : decode cJ6_getChars_ba4f3 55 = .ok (.bastore, 1) := by decide +kernel
theorem dJ6_getChars_ba4f3_56 : decode cJ6_getChars_ba4f3 56 = .ok (.aload_n 2, 1) := by decide +kernel
theorem dJ6_getChars_ba4f3_57 : decode cJ6_getChars_ba4f3 57 = .ok (.iinc 5 (-1), 3) := by decide +kernel
theorem dJ6_getChars_ba4f3_60 : decode cJ6_getChars_ba4f3 60 = .ok (.iload 5, 2) := by decide +kernel
theorem dJ6_getChars_ba4f3_62 : decode cJ6_getChars_ba4f3 62 = .ok (.getstatic 87, 3) := by decide +kernel
theorem dJ6_getChars_ba4f3_65 : decode cJ6_getChars_ba4f3 65 = .ok (.iload 4, 2) := by decide +kernel
theorem dJ6_getChars_ba4f3_67 : decode cJ6_getChars_ba4f3 67 = .ok (.baload, 1) := by decide +kernel
theorem dJ6_getChars_ba4f3_68 : decode cJ6_getChars_ba4f3 68 = .ok (.bastore, 1) := by decide +kernel
theorem dJ6_getChars_ba4f3_69 : decode cJ6_getChars_ba4f3 69 = .ok (.goto (-47), 3) := by decide +kernel
theorem dJ6_getChars_ba4f3_72 : decode cJ6_getChars_ba4f3 72 = .ok (.aload_n 2, 1) := by decide +kernel
theorem dJ6_getChars_ba4f3_73 : decode cJ6_getChars_ba4f3 73 = .ok (.iinc 5 (-1), 3) := by decide +kernel
theorem dJ6_getChars_ba4f3_76 : decode cJ6_getChars_ba4f3 76 = .ok (.iload 5, 2) := by decide +kernel
theorem dJ6_getChars_ba4f3_78 : decode cJ6_getChars_ba4f3 78 = .ok (.getstatic 83, 3) := by decide +kernel
theorem dJ6_getChars_ba4f3_81 : decode cJ6_getChars_ba4f3 81 = .ok (.iload_n 0, 1) := by decide +kernel
theorem dJ6_getChars_ba4f3_82 : decode cJ6_getChars_ba4f3 82 = .ok (.ineg, 1) := by decide +kernel
theorem dJ6_getChars_ba4f3_83 : decode cJ6_getChars_ba4f3 83 = .ok (.baload, 1) := by decide +kernel
theorem dJ6_getChars_ba4f3_84 : decode cJ6_getChars_ba4f3 84 = .ok (.bastore, 1) := by decide +kernel
theorem dJ6_getChars_ba4f3_85 : decode cJ6_getChars_ba4f3 85 = .ok (.iload_n 0, 1) := by decide +kernel
theorem dJ6_getChars_ba4f3_86 : decode cJ6_getChars_ba4f3 86 = .ok (.bipush (-9), 2) := by decide +kernel
theorem dJ6_getChars_ba4f3_88 : decode cJ6_getChars_ba4f3 88 = .ok (.if_icmp .ge 16, 3) := by decide +kernel
theorem dJ6_getChars_ba4f3_91 : decode cJ6_getChars_ba4f3 91 = .ok (.aload_n 2, 1) := by decide +kernel
theorem dJ6_getChars_ba4f3_92 : decode cJ6_getChars_ba4f3 92 = .ok (.iinc 5 (-1), 3) := by decide +kernel
theorem dJ6_getChars_ba4f3_95 : decode cJ6_getChars_ba4f3 95 = .ok (.iload 5, 2) := by decide +kernel
theorem dJ6_getChars_ba4f3_97 : decode cJ6_getChars_ba4f3 97 = .ok (.getstatic 87, 3) := by decide +kernel
theorem dJ6_getChars_ba4f3_100 : decode cJ6_getChars_ba4f3 100 = .ok (.iload_n 0, 1) := by decide +kernel
theorem dJ6_getChars_ba4f3_101 : decode cJ6_getChars_ba4f3 101 = .ok (.ineg, 1) := by decide +kernel
theorem dJ6_getChars_ba4f3_102 : decode cJ6_getChars_ba4f3 102 = .ok (.baload, 1) := by decide +kernel
theorem dJ6_getChars_ba4f3_103 : decode cJ6_getChars_ba4f3 103 = .ok (.bastore, 1) := by decide +kernel
theorem dJ6_getChars_ba4f3_104 : decode cJ6_getChars_ba4f3 104 = .ok (.iload 6, 2) := by decide +kernel
theorem dJ6_getChars_ba4f3_106 : decode cJ6_getChars_ba4f3 106 = .ok (.ifCond .eq 12, 3) := by decide +kernel
theorem dJ6_getChars_ba4f3_109 : decode cJ6_getChars_ba4f3 109 = .ok (.aload_n 2, 1) := by decide +kernel
theorem dJ6_getChars_ba4f3_110 : decode cJ6_getChars_ba4f3 110 = .ok (.iinc 5 (-1), 3) := by decide +kernel
theorem dJ6_getChars_ba4f3_113 : decode cJ6_getChars_ba4f3 113 = .ok (.iload 5, 2) := by decide +kernel
theorem dJ6_getChars_ba4f3_115 : decode cJ6_getChars_ba4f3 115 = .ok (.bipush 45, 2) := by decide +kernel
theorem dJ6_getChars_ba4f3_117 : decode cJ6_getChars_ba4f3 117 = .ok (.bastore, 1) := by decide +kernel
theorem dJ6_getChars_ba4f3_118 : decode cJ6_getChars_ba4f3 118 = .ok (.iload 5, 2) := by decide +kernel
theorem dJ6_getChars_ba4f3_120 : decode cJ6_getChars_ba4f3 120 = .ok (.ireturn, 1) := by decide +kernel
theorem dJ6_stringSize_0f7a4_0 : decode cJ6_stringSize_0f7a4 0 = .ok (.iconst 1, 1) := by decide +kernel
theorem dJ6_stringSize_0f7a4_1 : decode cJ6_stringSize_0f7a4 1 = .ok (.istore_n 1, 1) := by decide +kernel
theorem dJ6_stringSize_0f7a4_2 : decode cJ6_stringSize_0f7a4 2 = .ok (.iload_n 0, 1) := by decide +kernel
theorem dJ6_stringSize_0f7a4_3 : decode cJ6_stringSize_0f7a4 3 = .ok (.ifCond .lt 8, 3) := by decide +kernel
theorem dJ6_stringSize_0f7a4_6 : decode cJ6_stringSize_0f7a4 6 = .ok (.iconst 0, 1) := by decide +kernel
theorem dJ6_stringSize_0f7a4_7 : decode cJ6_stringSize_0f7a4 7 = .ok (.istore_n 1, 1) := by decide +kernel
theorem dJ6_stringSize_0f7a4_8 : decode cJ6_stringSize_0f7a4 8 = .ok (.iload_n 0, 1) := by decide +kernel
theorem dJ6_stringSize_0f7a4_9 : decode cJ6_stringSize_0f7a4 9 = .ok (.ineg, 1) := by decide +kernel
theorem dJ6_stringSize_0f7a4_10 : decode cJ6_stringSize_0f7a4 10 = .ok (.istore_n 0, 1) := by decide +kernel
theorem dJ6_stringSize_0f7a4_11 : decode cJ6_stringSize_0f7a4 11 = .ok (.bipush (-10), 2) := by decide +kernel
theorem dJ6_stringSize_0f7a4_13 : decode cJ6_stringSize_0f7a4 13 = .ok (.istore_n 2, 1) := by decide +kernel
theorem dJ6_stringSize_0f7a4_14 : decode cJ6_stringSize_0f7a4 14 = .ok (.iconst 1, 1) := by decide +kernel
theorem dJ6_stringSize_0f7a4_15 : decode cJ6_stringSize_0f7a4 15 = .ok (.istore_n 3, 1) := by decide +kernel
theorem dJ6_stringSize_0f7a4_16 : decode cJ6_stringSize_0f7a4 16 = .ok (.iload_n 3, 1) := by decide +kernel
theorem dJ6_stringSize_0f7a4_17 : decode cJ6_stringSize_0f7a4 17 = .ok (.bipush 10, 2) := by decide +kernel
theorem dJ6_stringSize_0f7a4_19 : decode cJ6_stringSize_0f7a4 19 = .ok (.if_icmp .ge 23, 3) := by decide +kernel
theorem dJ6_stringSize_0f7a4_22 : decode cJ6_stringSize_0f7a4 22 = .ok (.iload_n 0, 1) := by decide +kernel
theorem dJ6_stringSize_0f7a4_23 : decode cJ6_stringSize_0f7a4 23 = .ok (.iload_n 2, 1) := by decide +kernel
theorem dJ6_stringSize_0f7a4_24 : decode cJ6_stringSize_0f7a4 24 = .ok (.if_icmp .le 7, 3) := by decide +kernel
theorem dJ6_stringSize_0f7a4_27 : decode cJ6_stringSize_0f7a4 27 = .ok (.iload_n 3, 1) := by decide +kernel
theorem dJ6_stringSize_0f7a4_28 : decode cJ6_stringSize_0f7a4 28 = .ok (.iload_n 1, 1) := by decide +kernel
theorem dJ6_stringSize_0f7a4_29 : decode cJ6_stringSize_0f7a4 29 = .ok (.iadd, 1) := by decide +kernel
theorem dJ6_stringSize_0f7a4_30 : decode cJ6_stringSize_0f7a4 30 = .ok (.ireturn, 1) := by decide +kernel
theorem dJ6_stringSize_0f7a4_31 : decode cJ6_stringSize_0f7a4 31 = .ok (.bipush 10, 2) := by decide +kernel
theorem dJ6_stringSize_0f7a4_33 : decode cJ6_stringSize_0f7a4 33 = .ok (.iload_n 2, 1) := by decide +kernel
theorem dJ6_stringSize_0f7a4_34 : decode cJ6_stringSize_0f7a4 34 = .ok (.imul, 1) := by decide +kernel
theorem dJ6_stringSize_0f7a4_35 : decode cJ6_stringSize_0f7a4 35 = .ok (.istore_n 2, 1) := by decide +kernel
theorem dJ6_stringSize_0f7a4_36 : decode cJ6_stringSize_0f7a4 36 = .ok (.iinc 3 1, 3) := by decide +kernel
theorem dJ6_stringSize_0f7a4_39 : decode cJ6_stringSize_0f7a4 39 = .ok (.goto (-23), 3) := by decide +kernel
theorem dJ6_stringSize_0f7a4_42 : decode cJ6_stringSize_0f7a4 42 = .ok (.bipush 10, 2) := by decide +kernel
theorem dJ6_stringSize_0f7a4_44 : decode cJ6_stringSize_0f7a4 44 = .ok (.iload_n 1, 1) := by decide +kernel
theorem dJ6_stringSize_0f7a4_45 : decode cJ6_stringSize_0f7a4 45 = .ok (.iadd, 1) := by decide +kernel
theorem dJ6_stringSize_0f7a4_46 : decode cJ6_stringSize_0f7a4 46 = .ok (.ireturn, 1) := by decide +kernel
theorem dJ9_abs_0f7a4_0 : decode cJ9_abs_0f7a4 0 = .ok (.iload_n 0, 1) := by decide +kernel
theorem dJ9_abs_0f7a4_1 : decode cJ9_abs_0f7a4 1 = .ok (.ifCond .ge 8, 3) := by decide +kernel
theorem dJ9_abs_0f7a4_4 : decode cJ9_abs_0f7a4 4 = .ok (.iload_n 0, 1) := by decide +kernel
theorem dJ9_abs_0f7a4_5 : decode cJ9_abs_0f7a4 5 = .ok (.ineg, 1) := by decide +kernel
theorem dJ9_abs_0f7a4_6 : decode cJ9_abs_0f7a4 6 = .ok (.goto 4, 3) := by decide +kernel
theorem dJ9_abs_0f7a4_9 : decode cJ9_abs_0f7a4 9 = .ok (.iload_n 0, 1) := by decide +kernel
theorem dJ9_abs_0f7a4_10 : decode cJ9_abs_0f7a4 10 = .ok (.ireturn, 1) := by decide +kernel
theorem dJ9_max_7cf53_0 : decode cJ9_max_7cf53 0 = .ok (.iload_n 0, 1) := by decide +kernel
theorem dJ9_max_7cf53_1 : decode cJ9_max_7cf53 1 = .ok (.iload_n 1, 1) := by decide +kernel
theorem dJ9_max_7cf53_2 : decode cJ9_max_7cf53 2 = .ok (.if_icmp .lt 7, 3) := by decide +kernel
theorem dJ9_max_7cf53_5 : decode cJ9_max_7cf53 5 = .ok (.iload_n 0, 1) := by decide +kernel
theorem dJ9_max_7cf53_6 : decode cJ9_max_7cf53 6 = .ok (.goto 4, 3) := by decide +kernel
theorem dJ9_max_7cf53_9 : decode cJ9_max_7cf53 9 = .ok (.iload_n 1, 1) := by decide +kernel
theorem dJ9_max_7cf53_10 : decode cJ9_max_7cf53 10 = .ok (.ireturn, 1) := by decide +kernel
theorem dJ9_min_7cf53_0 : decode cJ9_min_7cf53 0 = .ok (.iload_n 0, 1) := by decide +kernel
theorem dJ9_min_7cf53_1 : decode cJ9_min_7cf53 1 = .ok (.iload_n 1, 1) := by decide +kernel
theorem dJ9_min_7cf53_2 : decode cJ9_min_7cf53 2 = .ok (.if_icmp .gt 7, 3) := by decide +kernel
theorem dJ9_min_7cf53_5 : decode cJ9_min_7cf53 5 = .ok (.iload_n 0, 1) := by decide +kernel
theorem dJ9_min_7cf53_6 : decode cJ9_min_7cf53 6 = .ok (.goto 4, 3) := by decide +kernel
theorem dJ9_min_7cf53_9 : decode cJ9_min_7cf53 9 = .ok (.iload_n 1, 1) := by decide +kernel
theorem dJ9_min_7cf53_10 : decode cJ9_min_7cf53 10 = .ok (.ireturn, 1) := by decide +kernel
theorem dJ0_init_81219_0 : decode cJ0_init_81219 0 = .ok (.aload_n 0, 1) := by decide +kernel
theorem dJ0_init_81219_1 : decode cJ0_init_81219 1 = .ok (.aload_n 1, 1) := by decide +kernel
theorem dJ0_init_81219_2 : decode cJ0_init_81219 2 = .ok (.aconst_null, 1) := by decide +kernel
theorem dJ0_init_81219_3 : decode cJ0_init_81219 3 = .ok (.invokespecial 489, 3) := by decide +kernel
theorem dJ0_init_81219_6 : decode cJ0_init_81219 6 = .ok (.return_, 1) := by decide +kernel
theorem dJ0_length_8abf5_0 : decode cJ0_length_8abf5 0 = .ok (.aload_n 0, 1) := by decide +kernel
theorem dJ0_length_8abf5_1 : decode cJ0_length_8abf5 1 = .ok (.getfield 9, 3) := by decide +kernel
theorem dJ0_length_8abf5_4 : decode cJ0_length_8abf5 4 = .ok (.arraylength, 1) := by decide +kernel
theorem dJ0_length_8abf5_5 : decode cJ0_length_8abf5 5 = .ok (.aload_n 0, 1) := by decide +kernel
theorem dJ0_length_8abf5_6 : decode cJ0_length_8abf5 6 = .ok (.invokevirtual 335, 3) := by decide +kernel
theorem dJ0_length_8abf5_9 : decode cJ0_length_8abf5 9 = .ok (.ishr, 1) := by decide +kernel
theorem dJ0_length_8abf5_10 : decode cJ0_length_8abf5 10 = .ok (.ireturn, 1) := by decide +kernel
theorem dJ0_getBytes_840e7_0 : decode cJ0_getBytes_840e7 0 = .ok (.aload_n 0, 1) := by decide +kernel
theorem dJ0_getBytes_840e7_1 : decode cJ0_getBytes_840e7 1 = .ok (.invokevirtual 335, 3) := by decide +kernel
theorem dJ0_getBytes_840e7_4 : decode cJ0_getBytes_840e7 4 = .ok (.iload_n 3, 1) := by decide +kernel
theorem dJ0_getBytes_840e7_5 : decode cJ0_getBytes_840e7 5 = .ok (.if_icmp .ne 23, 3) := by decide +kernel
theorem dJ0_getBytes_840e7_8 : decode cJ0_getBytes_840e7 8 = .ok (.aload_n 0, 1) := by decide +kernel
theorem dJ0_getBytes_840e7_9 : decode cJ0_getBytes_840e7 9 = .ok (.getfield 9, 3) := by decide +kernel
theorem dJ0_getBytes_840e7_12 : decode cJ0_getBytes_840e7 12 = .ok (.iconst 0, 1) := by decide +kernel
theorem dJ0_getBytes_840e7_13 : decode cJ0_getBytes_840e7 13 = .ok (.aload_n 1, 1) := by decide +kernel
theorem dJ0_getBytes_840e7_14 : decode cJ0_getBytes_840e7 14 = .ok (.iload_n 2, 1) := by decide +kernel
theorem dJ0_getBytes_840e7_15 : decode cJ0_getBytes_840e7 15 = .ok (.iload_n 3, 1) := by decide +kernel
theorem dJ0_getBytes_840e7_16 : decode cJ0_getBytes_840e7 16 = .ok (.ishl, 1) := by decide +kernel
theorem dJ0_getBytes_840e7_17 : decode cJ0_getBytes_840e7 17 = .ok (.aload_n 0, 1) := by decide +kernel
theorem dJ0_getBytes_840e7_18 : decode cJ0_getBytes_840e7 18 = .ok (.getfield 9, 3) := by decide +kernel
theorem dJ0_getBytes_840e7_21 : decode cJ0_getBytes_840e7 21 = .ok (.arraylength, 1) := by decide +kernel
theorem dJ0_getBytes_840e7_22 : decode cJ0_getBytes_840e7 22 = .ok (.invokestatic 212, 3) := by decide +kernel
theorem dJ0_getBytes_840e7_25 : decode cJ0_getBytes_840e7 25 = .ok (.goto 18, 3) := by decide +kernel
theorem dJ0_getBytes_840e7_28 : decode cJ0_getBytes_840e7 28 = .ok (.aload_n 0, 1) := by decide +kernel
theorem dJ0_getBytes_840e7_29 : decode cJ0_getBytes_840e7 29 = .ok (.getfield 9, 3) := by decide +kernel
theorem dJ0_getBytes_840e7_32 : decode cJ0_getBytes_840e7 32 = .ok (.iconst 0, 1) := by decide +kernel
theorem dJ0_getBytes_840e7_33 : decode cJ0_getBytes_840e7 33 = .ok (.aload_n 1, 1) := by decide +kernel
theorem dJ0_getBytes_840e7_34 : decode cJ0_getBytes_840e7 34 = .ok (.iload_n 2, 1) := by decide +kernel
theorem dJ0_getBytes_840e7_35 : decode cJ0_getBytes_840e7 35 = .ok (.aload_n 0, 1) := by decide +kernel
theorem dJ0_getBytes_840e7_36 : decode cJ0_getBytes_840e7 36 = .ok (.getfield 9, 3) := by decide +kernel
theorem dJ0_getBytes_840e7_39 : decode cJ0_getBytes_840e7 39 = .ok (.arraylength, 1) := by decide +kernel
theorem dJ0_getBytes_840e7_40 : decode cJ0_getBytes_840e7 40 = .ok (.invokestatic 106, 3) := by decide +kernel
theorem dJ0_getBytes_840e7_43 : decode cJ0_getBytes_840e7 43 = .ok (.return_, 1) := by decide +kernel
theorem dJ0_init_db425_0 : decode cJ0_init_db425 0 = .ok (.aload_n 0, 1) := by decide +kernel
theorem dJ0_init_db425_1 : decode cJ0_init_db425 1 = .ok (.invokespecial 1, 3) := by decide +kernel
theorem dJ0_init_db425_4 : decode cJ0_init_db425 4 = .ok (.aload_n 1, 1) := by decide +kernel
theorem dJ0_init_db425_5 : decode cJ0_init_db425 5 = .ok (.invokevirtual 552, 3) := by decide +kernel
theorem dJ0_init_db425_8 : decode cJ0_init_db425 8 = .ok (.astore_n 3, 1) := by decide +kernel
theorem dJ0_init_db425_9 : decode cJ0_init_db425 9 = .ok (.aload_n 1, 1) := by decide +kernel
theorem dJ0_init_db425_10 : decode cJ0_init_db425 10 = .ok (.invokevirtual 549, 3) := by decide +kernel
theorem dJ0_init_db425_13 : decode cJ0_init_db425 13 = .ok (.istore 4, 2) := by decide +kernel
theorem dJ0_init_db425_15 : decode cJ0_init_db425 15 = .ok (.aload_n 1, 1) := by decide +kernel
theorem dJ0_init_db425_16 : decode cJ0_init_db425 16 = .ok (.invokevirtual 1047, 3) := by decide +kernel
theorem dJ0_init_db425_19 : decode cJ0_init_db425 19 = .ok (.ifCond .eq 22, 3) := by decide +kernel
theorem dJ0_init_db425_22 : decode cJ0_init_db425 22 = .ok (.aload_n 0, 1) := by decide +kernel
theorem dJ0_init_db425_23 : decode cJ0_init_db425 23 = .ok (.iconst 0, 1) := by decide +kernel
theorem dJ0_init_db425_24 : decode cJ0_init_db425 24 = .ok (.putfield 15, 3) := by decide +kernel
theorem dJ0_init_db425_27 : decode cJ0_init_db425 27 = .ok (.aload_n 0, 1) := by decide +kernel
theorem dJ0_init_db425_28 : decode cJ0_init_db425 28 = .ok (.aload_n 3, 1) := by decide +kernel
theorem dJ0_init_db425_29 : decode cJ0_init_db425 29 = .ok (.iconst 0, 1) := by decide +kernel
theorem dJ0_init_db425_30 : decode cJ0_init_db425 30 = .ok (.iload 4, 2) := by decide +kernel
theorem dJ0_init_db425_32 : decode cJ0_init_db425 32 = .ok (.invokestatic 54, 3) := by decide +kernel
theorem dJ0_init_db425_35 : decode cJ0_init_db425 35 = .ok (.putfield 9, 3) := by decide +kernel
theorem dJ0_init_db425_38 : decode cJ0_init_db425 38 = .ok (.goto 59, 3) := by decide +kernel
theorem dJ0_init_db425_41 : decode cJ0_init_db425 41 = .ok (.getstatic 38, 3) := by decide +kernel
theorem dJ0_init_db425_44 : decode cJ0_init_db425 44 = .ok (.ifCond .eq 35, 3) := by decide +kernel
theorem dJ0_init_db425_47 : decode cJ0_init_db425 47 = .ok (.aload_n 1, 1) := by decide +kernel
theorem dJ0_init_db425_48 : decode cJ0_init_db425 48 = .ok (.getfield 1048, 3) := by decide +kernel
theorem dJ0_init_db425_51 : decode cJ0_init_db425 51 = .ok (.ifCond .eq 28, 3) := by decide +kernel
theorem dJ0_init_db425_54 : decode cJ0_init_db425 54 = .ok (.aload_n 0, 1) := by decide +kernel
theorem dJ0_init_db425_55 : decode cJ0_init_db425 55 = .ok (.aload_n 3, 1) := by decide +kernel
theorem dJ0_init_db425_56 : decode cJ0_init_db425 56 = .ok (.iconst 0, 1) := by decide +kernel
theorem dJ0_init_db425_57 : decode cJ0_init_db425 57 = .ok (.iload 4, 2) := by decide +kernel
theorem dJ0_init_db425_59 : decode cJ0_init_db425 59 = .ok (.invokestatic 1051, 3) := by decide +kernel
theorem dJ0_init_db425_62 : decode cJ0_init_db425 62 = .ok (.putfield 9, 3) := by decide +kernel
theorem dJ0_init_db425_65 : decode cJ0_init_db425 65 = .ok (.aload_n 0, 1) := by decide +kernel
theorem dJ0_init_db425_66 : decode cJ0_init_db425 66 = .ok (.aload_n 0, 1) := by decide +kernel
theorem dJ0_init_db425_67 : decode cJ0_init_db425 67 = .ok (.getfield 9, 3) := by decide +kernel
theorem dJ0_init_db425_70 : decode cJ0_init_db425 70 = .ok (.iload 4, 2) := by decide +kernel
theorem dJ0_init_db425_72 : decode cJ0_init_db425 72 = .ok (.invokestatic 47, 3) := by decide +kernel
theorem dJ0_init_db425_75 : decode cJ0_init_db425 75 = .ok (.putfield 15, 3) := by decide +kernel
theorem dJ0_init_db425_78 : decode cJ0_init_db425 78 = .ok (.return_, 1) := by decide +kernel
theorem dJ0_init_db425_79 : decode cJ0_init_db425 79 = .ok (.aload_n 0, 1) := by decide +kernel
theorem dJ0_init_db425_80 : decode cJ0_init_db425 80 = .ok (.iconst 1, 1) := by decide +kernel
theorem dJ0_init_db425_81 : decode cJ0_init_db425 81 = .ok (.putfield 15, 3) := by decide +kernel
theorem dJ0_init_db425_84 : decode cJ0_init_db425 84 = .ok (.aload_n 0, 1) := by decide +kernel
theorem dJ0_init_db425_85 : decode cJ0_init_db425 85 = .ok (.aload_n 3, 1) := by decide +kernel
theorem dJ0_init_db425_86 : decode cJ0_init_db425 86 = .ok (.iconst 0, 1) := by decide +kernel
theorem dJ0_init_db425_87 : decode cJ0_init_db425 87 = .ok (.iload 4, 2) := by decide +kernel
theorem dJ0_init_db425_89 : decode cJ0_init_db425 89 = .ok (.iconst 1, 1) := by decide +kernel
theorem dJ0_init_db425_90 : decode cJ0_init_db425 90 = .ok (.ishl, 1) := by decide +kernel
theorem dJ0_init_db425_91 : decode cJ0_init_db425 91 = .ok (.invokestatic 54, 3) := by decide +kernel
theorem dJ0_init_db425_94 : decode cJ0_init_db425 94 = .ok (.putfield 9, 3) := by decide +kernel
theorem dJ0_init_db425_97 : decode cJ0_init_db425 97 = .ok (.return_, 1) := by decide +kernel
theorem dJ0_coder_7d493_0 : decode cJ0_coder_7d493 0 = .ok (.getstatic 38, 3) := by decide +kernel
theorem dJ0_coder_7d493_3 : decode cJ0_coder_7d493 3 = .ok (.ifCond .eq 10, 3) := by decide +kernel
theorem dJ0_coder_7d493_6 : decode cJ0_coder_7d493 6 = .ok (.aload_n 0, 1) := by decide +kernel
theorem dJ0_coder_7d493_7 : decode cJ0_coder_7d493 7 = .ok (.getfield 15, 3) := by decide +kernel
theorem dJ0_coder_7d493_10 : decode cJ0_coder_7d493 10 = .ok (.goto 4, 3) := by decide +kernel
theorem dJ0_coder_7d493_13 : decode cJ0_coder_7d493 13 = .ok (.iconst 1, 1) := by decide +kernel
theorem dJ0_coder_7d493_14 : decode cJ0_coder_7d493 14 = .ok (.ireturn, 1) := by decide +kernel
theorem dJ0_checkIndex_df160_0 : decode cJ0_checkIndex_df160 0 = .ok (.iload_n 0, 1) := by decide +kernel
theorem dJ0_checkIndex_df160_1 : decode cJ0_checkIndex_df160 1 = .ok (.iload_n 1, 1) := by decide +kernel
theorem dJ0_checkIndex_df160_2 : decode cJ0_checkIndex_df160 2 = .ok (.getstatic 1053, 3) := by decide +kernel
theorem dJ0_checkIndex_df160_5 : decode cJ0_checkIndex_df160 5 = .ok (.invokestatic 1059, 3) := by decide +kernel
theorem dJ0_checkIndex_df160_8 : decode cJ0_checkIndex_df160 8 = .ok (.pop, 1) := by decide +kernel
theorem dJ0_checkIndex_df160_9 : decode cJ0_checkIndex_df160 9 = .ok (.return_, 1) := by decide +kernel
theorem dJ0_checkBoundsOffCount_cabcc_0 : decode cJ0_checkBoundsOffCount_cabcc 0 = .ok (.iload_n 0, 1) := by decide +kernel
theorem dJ0_checkBoundsOffCount_cabcc_1 : decode cJ0_checkBoundsOffCount_cabcc 1 = .ok (.iload_n 1, 1) := by decide +kernel
theorem dJ0_checkBoundsOffCount_cabcc_2 : decode cJ0_checkBoundsOffCount_cabcc 2 = .ok (.iload_n 2, 1) := by decide +kernel
theorem dJ0_checkBoundsOffCount_cabcc_3 : decode cJ0_checkBoundsOffCount_cabcc 3 = .ok (.getstatic 1053, 3) := by decide +kernel
theorem dJ0_checkBoundsOffCount_cabcc_6 : decode cJ0_checkBoundsOffCount_cabcc 6 = .ok (.invokestatic 1065, 3) := by decide +kernel
theorem dJ0_checkBoundsOffCount_cabcc_9 : decode cJ0_checkBoundsOffCount_cabcc 9 = .ok (.ireturn, 1) := by decide +kernel
theorem dJ0_checkBoundsBeginEnd_23922_0 : decode cJ0_checkBoundsBeginEnd_23922 0 = .ok (.iload_n 0, 1) := by decide +kernel
theorem dJ0_checkBoundsBeginEnd_23922_1 : decode cJ0_checkBoundsBeginEnd_23922 1 = .ok (.iload_n 1, 1) := by decide +kernel
theorem dJ0_checkBoundsBeginEnd_23922_2 : decode cJ0_checkBoundsBeginEnd_23922 2 = .ok (.iload_n 2, 1) := by decide +kernel
theorem dJ0_checkBoundsBeginEnd_23922_3 : decode cJ0_checkBoundsBeginEnd_23922 3 = .ok (.getstatic 1053, 3) := by decide +kernel
theorem dJ0_checkBoundsBeginEnd_23922_6 : decode cJ0_checkBoundsBeginEnd_23922 6 = .ok (.invokestatic 1062, 3) := by decide +kernel
theorem dJ0_checkBoundsBeginEnd_23922_9 : decode cJ0_checkBoundsBeginEnd_23922 9 = .ok (.pop, 1) := by decide +kernel
theorem dJ0_checkBoundsBeginEnd_23922_10 : decode cJ0_checkBoundsBeginEnd_23922 10 = .ok (.return_, 1) := by decide +kernel
theorem dJ4_init_da8c8_0 : decode cJ4_init_da8c8 0 = .ok (.aload_n 0, 1) := by decide +kernel
theorem dJ4_init_da8c8_1 : decode cJ4_init_da8c8 1 = .ok (.bipush 16, 2) := by decide +kernel
theorem dJ4_init_da8c8_3 : decode cJ4_init_da8c8 3 = .ok (.invokespecial 1, 3) := by decide +kernel
theorem dJ4_init_da8c8_6 : decode cJ4_init_da8c8 6 = .ok (.return_, 1) := by decide +kernel
theorem dJ4_append_15ec4_0 : decode cJ4_append_15ec4 0 = .ok (.aload_n 0, 1) := by decide +kernel
theorem dJ4_append_15ec4_1 : decode cJ4_append_15ec4 1 = .ok (.aload_n 1, 1) := by decide +kernel
theorem dJ4_append_15ec4_2 : decode cJ4_append_15ec4 2 = .ok (.invokespecial 29, 3) := by decide +kernel
theorem dJ4_append_15ec4_5 : decode cJ4_append_15ec4 5 = .ok (.pop, 1) := by decide +kernel
theorem dJ4_append_15ec4_6 : decode cJ4_append_15ec4 6 = .ok (.aload_n 0, 1) := by decide +kernel
theorem dJ4_append_15ec4_7 : decode cJ4_append_15ec4 7 = .ok (.areturn, 1) := by decide +kernel
theorem dJ4_append_bf812_0 : decode cJ4_append_bf812 0 = .ok (.aload_n 0, 1) := by decide +kernel
theorem dJ4_append_bf812_1 : decode cJ4_append_bf812 1 = .ok (.iload_n 1, 1) := by decide +kernel
theorem dJ4_append_bf812_2 : decode cJ4_append_bf812 2 = .ok (.invokespecial 53, 3) := by decide +kernel
theorem dJ4_append_bf812_5 : decode cJ4_append_bf812 5 = .ok (.pop, 1) := by decide +kernel
theorem dJ4_append_bf812_6 : decode cJ4_append_bf812 6 = .ok (.aload_n 0, 1) := by decide +kernel
theorem dJ4_append_bf812_7 : decode cJ4_append_bf812 7 = .ok (.areturn, 1) := by decide +kernel
theorem dJ4_toString_0e30d_0 : decode cJ4_toString_0e30d 0 = .ok (.new 18, 3) := by decide +kernel
theorem dJ4_toString_0e30d_3 : decode cJ4_toString_0e30d 3 = .ok (.dup, 1) := by decide +kernel
theorem dJ4_toString_0e30d_4 : decode cJ4_toString_0e30d 4 = .ok (.aload_n 0, 1) := by decide +kernel
theorem dJ4_toString_0e30d_5 : decode cJ4_toString_0e30d 5 = .ok (.invokespecial 137, 3) := by decide +kernel
theorem dJ4_toString_0e30d_8 : decode cJ4_toString_0e30d 8 = .ok (.areturn, 1) := by decide +kernel
theorem dJ4_charAt_5068e_0 : decode cJ4_charAt_5068e 0 = .ok (.aload_n 0, 1) := by decide +kernel
theorem dJ4_charAt_5068e_1 : decode cJ4_charAt_5068e 1 = .ok (.iload_n 1, 1) := by decide +kernel
theorem dJ4_charAt_5068e_2 : decode cJ4_charAt_5068e 2 = .ok (.invokespecial 329, 3) := by decide +kernel
theorem dJ4_charAt_5068e_5 : decode cJ4_charAt_5068e 5 = .ok (.ireturn, 1) := by decide +kernel
theorem dJ4_setLength_d00df_0 : decode cJ4_setLength_d00df 0 = .ok (.aload_n 0, 1) := by decide +kernel
theorem dJ4_setLength_d00df_1 : decode cJ4_setLength_d00df 1 = .ok (.iload_n 1, 1) := by decide +kernel
theorem dJ4_setLength_d00df_2 : decode cJ4_setLength_d00df 2 = .ok (.invokespecial 333, 3) := by decide +kernel
theorem dJ4_setLength_d00df_5 : decode cJ4_setLength_d00df 5 = .ok (.return_, 1) := by decide +kernel
theorem dJ4_length_8abf5_0 : decode cJ4_length_8abf5 0 = .ok (.aload_n 0, 1) := by decide +kernel
theorem dJ4_length_8abf5_1 : decode cJ4_length_8abf5 1 = .ok (.invokespecial 343, 3) := by decide +kernel
theorem dJ4_length_8abf5_4 : decode cJ4_length_8abf5 4 = .ok (.ireturn, 1) := by decide +kernel
theorem dJx7c733_init_d00df_0 : decode cJx7c733_init_d00df 0 = .ok (.aload_n 0, 1) := by decide +kernel
theorem dJx7c733_init_d00df_1 : decode cJx7c733_init_d00df 1 = .ok (.new 10, 3) := by decide +kernel
theorem dJx7c733_init_d00df_4 : decode cJx7c733_init_d00df 4 = .ok (.dup, 1) := by decide +kernel
theorem dJx7c733_init_d00df_5 : decode cJx7c733_init_d00df 5 = .ok (.invokespecial 12, 3) := by decide +kernel
theorem dJx7c733_init_d00df_8 : decode cJx7c733_init_d00df 8 = .ok (.ldc 13, 2) := by decide +kernel
theorem dJx7c733_init_d00df_10 : decode cJx7c733_init_d00df 10 = .ok (.invokevirtual 15, 3) := by decide +kernel
theorem dJx7c733_init_d00df_13 : decode cJx7c733_init_d00df 13 = .ok (.iload_n 1, 1) := by decide +kernel
theorem dJx7c733_init_d00df_14 : decode cJx7c733_init_d00df 14 = .ok (.invokevirtual 19, 3) := by decide +kernel
theorem dJx7c733_init_d00df_17 : decode cJx7c733_init_d00df 17 = .ok (.invokevirtual 22, 3) := by decide +kernel
theorem dJx7c733_init_d00df_20 : decode cJx7c733_init_d00df 20 = .ok (.invokespecial 7, 3) := by decide +kernel
theorem dJx7c733_init_d00df_23 : decode cJx7c733_init_d00df 23 = .ok (.return_, 1) := by decide +kernel
theorem dJ1_fillNull_b72d1_0 : decode cJ1_fillNull_b72d1 0 = .ok (.aload_n 0, 1) := by decide +kernel
theorem dJ1_fillNull_b72d1_1 : decode cJ1_fillNull_b72d1 1 = .ok (.iload_n 1, 1) := by decide +kernel
theorem dJ1_fillNull_b72d1_2 : decode cJ1_fillNull_b72d1 2 = .ok (.iload_n 2, 1) := by decide +kernel
theorem dJ1_fillNull_b72d1_3 : decode cJ1_fillNull_b72d1 3 = .ok (.iconst 0, 1) := by decide +kernel
theorem dJ1_fillNull_b72d1_4 : decode cJ1_fillNull_b72d1 4 = .ok (.invokestatic 236, 3) := by decide +kernel
theorem dJ1_fillNull_b72d1_7 : decode cJ1_fillNull_b72d1 7 = .ok (.return_, 1) := by decide +kernel
theorem dJ1_inflate_0e8fd_0 : decode cJ1_inflate_0e8fd 0 = .ok (.aload_n 0, 1) := by decide +kernel
theorem dJ1_inflate_0e8fd_1 : decode cJ1_inflate_0e8fd 1 = .ok (.iload_n 1, 1) := by decide +kernel
theorem dJ1_inflate_0e8fd_2 : decode cJ1_inflate_0e8fd 2 = .ok (.aload_n 2, 1) := by decide +kernel
theorem dJ1_inflate_0e8fd_3 : decode cJ1_inflate_0e8fd 3 = .ok (.iload_n 3, 1) := by decide +kernel
theorem dJ1_inflate_0e8fd_4 : decode cJ1_inflate_0e8fd 4 = .ok (.iload 4, 2) := by decide +kernel
theorem dJ1_inflate_0e8fd_6 : decode cJ1_inflate_0e8fd 6 = .ok (.invokestatic 240, 3) := by decide +kernel
theorem dJ1_inflate_0e8fd_9 : decode cJ1_inflate_0e8fd 9 = .ok (.return_, 1) := by decide +kernel
theorem dJ2_newBytesFor_77867_0 : decode cJ2_newBytesFor_77867 0 = .ok (.iload_n 0, 1) := by decide +kernel
theorem dJ2_newBytesFor_77867_1 : decode cJ2_newBytesFor_77867 1 = .ok (.invokestatic 11, 3) := by decide +kernel
theorem dJ2_newBytesFor_77867_4 : decode cJ2_newBytesFor_77867 4 = .ok (.newarray .byte, 2) := by decide +kernel
theorem dJ2_newBytesFor_77867_6 : decode cJ2_newBytesFor_77867 6 = .ok (.areturn, 1) := by decide +kernel
theorem dJ2_newBytesLength_0f7a4_0 : decode cJ2_newBytesLength_0f7a4 0 = .ok (.iload_n 0, 1) := by decide +kernel
theorem dJ2_newBytesLength_0f7a4_1 : decode cJ2_newBytesLength_0f7a4 1 = .ok (.ifCond .ge 11, 3) := by decide +kernel
theorem dJ2_newBytesLength_0f7a4_4 : decode cJ2_newBytesLength_0f7a4 4 = .ok (.new 17, 3) := by decide +kernel
theorem dJ2_newBytesLength_0f7a4_7 : decode cJ2_newBytesLength_0f7a4 7 = .ok (.dup, 1) := by decide +kernel
theorem dJ2_newBytesLength_0f7a4_8 : decode cJ2_newBytesLength_0f7a4 8 = .ok (.invokespecial 19, 3) := by decide +kernel
theorem dJ2_newBytesLength_0f7a4_11 : decode cJ2_newBytesLength_0f7a4 11 = .ok (.athrow, 1) := by decide +kernel
theorem dJ2_newBytesLength_0f7a4_12 : decode cJ2_newBytesLength_0f7a4 12 = .ok (.iload_n 0, 1) := by decide +kernel
theorem dJ2_newBytesLength_0f7a4_13 : decode cJ2_newBytesLength_0f7a4 13 = .ok (.ldc 20, 2) := by decide +kernel
theorem dJ2_newBytesLength_0f7a4_15 : decode cJ2_newBytesLength_0f7a4 15 = .ok (.if_icmp .lt 40, 3) := by decide +kernel
theorem dJ2_newBytesLength_0f7a4_18 : decode cJ2_newBytesLength_0f7a4 18 = .ok (.new 21, 3) := by decide +kernel
theorem dJ2_newBytesLength_0f7a4_21 : decode cJ2_newBytesLength_0f7a4 21 = .ok (.dup, 1) := by decide +kernel
theorem dJ2_newBytesLength_0f7a4_22 : decode cJ2_newBytesLength_0f7a4 22 = .ok (.new 23, 3) := by decide +kernel
theorem dJ2_newBytesLength_0f7a4_25 : decode cJ2_newBytesLength_0f7a4 25 = .ok (.dup, 1) := by decide +kernel
theorem dJ2_newBytesLength_0f7a4_26 : decode cJ2_newBytesLength_0f7a4 26 = .ok (.invokespecial 25, 3) := by decide +kernel
theorem dJ2_newBytesLength_0f7a4_29 : decode cJ2_newBytesLength_0f7a4 29 = .ok (.ldc 26, 2) := by decide +kernel
theorem dJ2_newBytesLength_0f7a4_31 : decode cJ2_newBytesLength_0f7a4 31 = .ok (.invokevirtual 28, 3) := by decide +kernel
theorem dJ2_newBytesLength_0f7a4_34 : decode cJ2_newBytesLength_0f7a4 34 = .ok (.iload_n 0, 1) := by decide +kernel
theorem dJ2_newBytesLength_0f7a4_35 : decode cJ2_newBytesLength_0f7a4 35 = .ok (.invokevirtual 32, 3) := by decide +kernel
theorem dJ2_newBytesLength_0f7a4_38 : decode cJ2_newBytesLength_0f7a4 38 = .ok (.ldc 35, 2) := by decide +kernel
theorem dJ2_newBytesLength_0f7a4_40 : decode cJ2_newBytesLength_0f7a4 40 = .ok (.invokevirtual 28, 3) := by decide +kernel
theorem dJ2_newBytesLength_0f7a4_43 : decode cJ2_newBytesLength_0f7a4 43 = .ok (.ldc 20, 2) := by decide +kernel
theorem dJ2_newBytesLength_0f7a4_45 : decode cJ2_newBytesLength_0f7a4 45 = .ok (.invokevirtual 32, 3) := by decide +kernel
theorem dJ2_newBytesLength_0f7a4_48 : decode cJ2_newBytesLength_0f7a4 48 = .ok (.invokevirtual 37, 3) := by decide +kernel
theorem dJ2_newBytesLength_0f7a4_51 : decode cJ2_newBytesLength_0f7a4 51 = .ok (.invokespecial 41, 3) := by decide +kernel
theorem dJ2_newBytesLength_0f7a4_54 : decode cJ2_newBytesLength_0f7a4 54 = .ok (.athrow, 1) := by decide +kernel
theorem dJ2_newBytesLength_0f7a4_55 : decode cJ2_newBytesLength_0f7a4 55 = .ok (.iload_n 0, 1) := by decide +kernel
theorem dJ2_newBytesLength_0f7a4_56 : decode cJ2_newBytesLength_0f7a4 56 = .ok (.iconst 1, 1) := by decide +kernel
theorem dJ2_newBytesLength_0f7a4_57 : decode cJ2_newBytesLength_0f7a4 57 = .ok (.ishl, 1) := by decide +kernel
theorem dJ2_newBytesLength_0f7a4_58 : decode cJ2_newBytesLength_0f7a4 58 = .ok (.ireturn, 1) := by decide +kernel
theorem dJ2_putChar_b72d1_0 : decode cJ2_putChar_b72d1 0 = .ok (.getstatic 44, 3) := by decide +kernel
theorem dJ2_putChar_b72d1_3 : decode cJ2_putChar_b72d1 3 = .ok (.ifCond .ne 25, 3) := by decide +kernel
theorem dJ2_putChar_b72d1_6 : decode cJ2_putChar_b72d1 6 = .ok (.iload_n 1, 1) := by decide +kernel
theorem dJ2_putChar_b72d1_7 : decode cJ2_putChar_b72d1 7 = .ok (.ifCond .lt 11, 3) := by decide +kernel
theorem dJ2_putChar_b72d1_10 : decode cJ2_putChar_b72d1 10 = .ok (.iload_n 1, 1) := by decide +kernel
theorem dJ2_putChar_b72d1_11 : decode cJ2_putChar_b72d1 11 = .ok (.aload_n 0, 1) := by decide +kernel
theorem dJ2_putChar_b72d1_12 : decode cJ2_putChar_b72d1 12 = .ok (.invokestatic 48, 3) := by decide +kernel
theorem dJ2_putChar_b72d1_15 : decode cJ2_putChar_b72d1 15 = .ok (.if_icmp .lt 13, 3) := by decide +kernel
theorem dJ2_putChar_b72d1_18 : decode cJ2_putChar_b72d1 18 = .ok (.new 52, 3) := by decide +kernel
theorem dJ2_putChar_b72d1_21 : decode cJ2_putChar_b72d1 21 = .ok (.dup, 1) := by decide +kernel
theorem dJ2_putChar_b72d1_22 : decode cJ2_putChar_b72d1 22 = .ok (.ldc 54, 2) := by decide +kernel
theorem dJ2_putChar_b72d1_24 : decode cJ2_putChar_b72d1 24 = .ok (.invokespecial 56, 3) := by decide +kernel
theorem dJ2_putChar_b72d1_27 : decode cJ2_putChar_b72d1 27 = .ok (.athrow, 1) := by decide +kernel
theorem dJ2_putChar_b72d1_28 : decode cJ2_putChar_b72d1 28 = .ok (.iload_n 1, 1) := by decide +kernel
theorem dJ2_putChar_b72d1_29 : decode cJ2_putChar_b72d1 29 = .ok (.iconst 1, 1) := by decide +kernel
theorem dJ2_putChar_b72d1_30 : decode cJ2_putChar_b72d1 30 = .ok (.ishl, 1) := by decide +kernel
theorem dJ2_putChar_b72d1_31 : decode cJ2_putChar_b72d1 31 = .ok (.istore_n 1, 1) := by decide +kernel
theorem dJ2_putChar_b72d1_32 : decode cJ2_putChar_b72d1 32 = .ok (.aload_n 0, 1) := by decide +kernel
theorem dJ2_putChar_b72d1_33 : decode cJ2_putChar_b72d1 33 = .ok (.iload_n 1, 1) := by decide +kernel
theorem dJ2_putChar_b72d1_34 : decode cJ2_putChar_b72d1 34 = .ok (.iinc 1 1, 3) := by decide +kernel
theorem dJ2_putChar_b72d1_37 : decode cJ2_putChar_b72d1 37 = .ok (.iload_n 2, 1) := by decide +kernel
theorem dJ2_putChar_b72d1_38 : decode cJ2_putChar_b72d1 38 = .ok (.getstatic 59, 3) := by decide +kernel
theorem dJ2_putChar_b72d1_41 : decode cJ2_putChar_b72d1 41 = .ok (.ishr, 1) := by decide +kernel
theorem dJ2_putChar_b72d1_42 : decode cJ2_putChar_b72d1 42 = .ok (.i2b, 1) := by decide +kernel
theorem dJ2_putChar_b72d1_43 : decode cJ2_putChar_b72d1 43 = .ok (.bastore, 1) := by decide +kernel
theorem dJ2_putChar_b72d1_44 : decode cJ2_putChar_b72d1 44 = .ok (.aload_n 0, 1) := by decide +kernel
theorem dJ2_putChar_b72d1_45 : decode cJ2_putChar_b72d1 45 = .ok (.iload_n 1, 1) := by decide +kernel
theorem dJ2_putChar_b72d1_46 : decode cJ2_putChar_b72d1 46 = .ok (.iload_n 2, 1) := by decide +kernel
theorem dJ2_putChar_b72d1_47 : decode cJ2_putChar_b72d1 47 = .ok (.getstatic 63, 3) := by decide +kernel
theorem dJ2_putChar_b72d1_50 : decode cJ2_putChar_b72d1 50 = .ok (.ishr, 1) := by decide +kernel
theorem dJ2_putChar_b72d1_51 : decode cJ2_putChar_b72d1 51 = .ok (.i2b, 1) := by decide +kernel
theorem dJ2_putChar_b72d1_52 : decode cJ2_putChar_b72d1 52 = .ok (.bastore, 1) := by decide +kernel
theorem dJ2_putChar_b72d1_53 : decode cJ2_putChar_b72d1 53 = .ok (.return_, 1) := by decide +kernel
theorem dJ2_getChar_3b067_0 : decode cJ2_getChar_3b067 0 = .ok (.getstatic 44, 3) := by decide +kernel
theorem dJ2_getChar_3b067_3 : decode cJ2_getChar_3b067 3 = .ok (.ifCond .ne 25, 3) := by decide +kernel
theorem dJ2_getChar_3b067_6 : decode cJ2_getChar_3b067 6 = .ok (.iload_n 1, 1) := by decide +kernel
theorem dJ2_getChar_3b067_7 : decode cJ2_getChar_3b067 7 = .ok (.ifCond .lt 11, 3) := by decide +kernel
theorem dJ2_getChar_3b067_10 : decode cJ2_getChar_3b067 10 = .ok (.iload_n 1, 1) := by decide +kernel
theorem dJ2_getChar_3b067_11 : decode cJ2_getChar_3b067 11 = .ok (.aload_n 0, 1) := by decide +kernel
theorem dJ2_getChar_3b067_12 : decode cJ2_getChar_3b067 12 = .ok (.invokestatic 48, 3) := by decide +kernel
theorem dJ2_getChar_3b067_15 : decode cJ2_getChar_3b067 15 = .ok (.if_icmp .lt 13, 3) := by decide +kernel
theorem dJ2_getChar_3b067_18 : decode cJ2_getChar_3b067 18 = .ok (.new 52, 3) := by decide +kernel
theorem dJ2_getChar_3b067_21 : decode cJ2_getChar_3b067 21 = .ok (.dup, 1) := by decide +kernel
theorem dJ2_getChar_3b067_22 : decode cJ2_getChar_3b067 22 = .ok (.ldc 54, 2) := by decide +kernel
theorem dJ2_getChar_3b067_24 : decode cJ2_getChar_3b067 24 = .ok (.invokespecial 56, 3) := by decide +kernel
theorem dJ2_getChar_3b067_27 : decode cJ2_getChar_3b067 27 = .ok (.athrow, 1) := by decide +kernel
theorem dJ2_getChar_3b067_28 : decode cJ2_getChar_3b067 28 = .ok (.iload_n 1, 1) := by decide +kernel
theorem dJ2_getChar_3b067_29 : decode cJ2_getChar_3b067 29 = .ok (.iconst 1, 1) := by decide +kernel
theorem dJ2_getChar_3b067_30 : decode cJ2_getChar_3b067 30 = .ok (.ishl, 1) := by decide +kernel
theorem dJ2_getChar_3b067_31 : decode cJ2_getChar_3b067 31 = .ok (.istore_n 1, 1) := by decide +kernel
theorem dJ2_getChar_3b067_32 : decode cJ2_getChar_3b067 32 = .ok (.aload_n 0, 1) := by decide +kernel
theorem dJ2_getChar_3b067_33 : decode cJ2_getChar_3b067 33 = .ok (.iload_n 1, 1) := by decide +kernel
theorem dJ2_getChar_3b067_34 : decode cJ2_getChar_3b067 34 = .ok (.iinc 1 1, 3) := by decide +kernel
theorem dJ2_getChar_3b067_37 : decode cJ2_getChar_3b067 37 = .ok (.baload, 1) := by decide +kernel
theorem dJ2_getChar_3b067_38 : decode cJ2_getChar_3b067 38 = .ok (.sipush 255, 3) := by decide +kernel
theorem dJ2_getChar_3b067_41 : decode cJ2_getChar_3b067 41 = .ok (.iand, 1) := by decide +kernel
theorem dJ2_getChar_3b067_42 : decode cJ2_getChar_3b067 42 = .ok (.getstatic 59, 3) := by decide +kernel
theorem dJ2_getChar_3b067_45 : decode cJ2_getChar_3b067 45 = .ok (.ishl, 1) := by decide +kernel
theorem dJ2_getChar_3b067_46 : decode cJ2_getChar_3b067 46 = .ok (.aload_n 0, 1) := by decide +kernel
theorem dJ2_getChar_3b067_47 : decode cJ2_getChar_3b067 47 = .ok (.iload_n 1, 1) := by decide +kernel
theorem dJ2_getChar_3b067_48 : decode cJ2_getChar_3b067 48 = .ok (.baload, 1) := by decide +kernel
theorem dJ2_getChar_3b067_49 : decode cJ2_getChar_3b067 49 = .ok (.sipush 255, 3) := by decide +kernel
theorem dJ2_getChar_3b067_52 : decode cJ2_getChar_3b067 52 = .ok (.iand, 1) := by decide +kernel
theorem dJ2_getChar_3b067_53 : decode cJ2_getChar_3b067 53 = .ok (.getstatic 63, 3) := by decide +kernel
theorem dJ2_getChar_3b067_56 : decode cJ2_getChar_3b067 56 = .ok (.ishl, 1) := by decide +kernel
theorem dJ2_getChar_3b067_57 : decode cJ2_getChar_3b067 57 = .ok (.ior, 1) := by decide +kernel
theorem dJ2_getChar_3b067_58 : decode cJ2_getChar_3b067 58 = .ok (.i2c, 1) := by decide +kernel
theorem dJ2_getChar_3b067_59 : decode cJ2_getChar_3b067 59 = .ok (.ireturn, 1) := by decide +kernel
theorem dJ2_length_9d52b_0 : decode cJ2_length_9d52b 0 = .ok (.aload_n 0, 1) := by decide +kernel
theorem dJ2_length_9d52b_1 : decode cJ2_length_9d52b 1 = .ok (.arraylength, 1) := by decide +kernel
theorem dJ2_length_9d52b_2 : decode cJ2_length_9d52b 2 = .ok (.iconst 1, 1) := by decide +kernel
theorem dJ2_length_9d52b_3 : decode cJ2_length_9d52b 3 = .ok (.ishr, 1) := by decide +kernel
theorem dJ2_length_9d52b_4 : decode cJ2_length_9d52b 4 = .ok (.ireturn, 1) := by decide +kernel
theorem dJ2_coderFromArrayLen_85cad_0 : decode cJ2_coderFromArrayLen_85cad 0 = .ok (.iload_n 1, 1) := by decide +kernel
theorem dJ2_coderFromArrayLen_85cad_1 : decode cJ2_coderFromArrayLen_85cad 1 = .ok (.aload_n 0, 1) := by decide +kernel
theorem dJ2_coderFromArrayLen_85cad_2 : decode cJ2_coderFromArrayLen_85cad 2 = .ok (.arraylength, 1) := by decide +kernel
theorem dJ2_coderFromArrayLen_85cad_3 : decode cJ2_coderFromArrayLen_85cad 3 = .ok (.isub, 1) := by decide +kernel
theorem dJ2_coderFromArrayLen_85cad_4 : decode cJ2_coderFromArrayLen_85cad 4 = .ok (.bipush 31, 2) := by decide +kernel
theorem dJ2_coderFromArrayLen_85cad_6 : decode cJ2_coderFromArrayLen_85cad 6 = .ok (.iushr, 1) := by decide +kernel
theorem dJ2_coderFromArrayLen_85cad_7 : decode cJ2_coderFromArrayLen_85cad 7 = .ok (.i2b, 1) := by decide +kernel
theorem dJ2_coderFromArrayLen_85cad_8 : decode cJ2_coderFromArrayLen_85cad 8 = .ok (.ireturn, 1) := by decide +kernel
theorem dJ2_compress_39247_0 : decode cJ2_compress_39247 0 = .ok (.iload_n 2, 1) := by decide +kernel
theorem dJ2_compress_39247_1 : decode cJ2_compress_39247 1 = .ok (.newarray .byte, 2) := by decide +kernel
theorem dJ2_compress_39247_3 : decode cJ2_compress_39247 3 = .ok (.astore_n 3, 1) := by decide +kernel
theorem dJ2_compress_39247_4 : decode cJ2_compress_39247 4 = .ok (.aload_n 0, 1) := by decide +kernel
theorem dJ2_compress_39247_5 : decode cJ2_compress_39247 5 = .ok (.iload_n 1, 1) := by decide +kernel
theorem dJ2_compress_39247_6 : decode cJ2_compress_39247 6 = .ok (.aload_n 3, 1) := by decide +kernel
theorem dJ2_compress_39247_7 : decode cJ2_compress_39247 7 = .ok (.iconst 0, 1) := by decide +kernel
theorem dJ2_compress_39247_8 : decode cJ2_compress_39247 8 = .ok (.iload_n 2, 1) := by decide +kernel
theorem dJ2_compress_39247_9 : decode cJ2_compress_39247 9 = .ok (.invokestatic 123, 3) := by decide +kernel
theorem dJ2_compress_39247_12 : decode cJ2_compress_39247 12 = .ok (.istore 4, 2) := by decide +kernel
theorem dJ2_compress_39247_14 : decode cJ2_compress_39247 14 = .ok (.iload 4, 2) := by decide +kernel
theorem dJ2_compress_39247_16 : decode cJ2_compress_39247 16 = .ok (.iload_n 2, 1) := by decide +kernel
theorem dJ2_compress_39247_17 : decode cJ2_compress_39247 17 = .ok (.if_icmp .eq 47, 3) := by decide +kernel
theorem dJ2_compress_39247_20 : decode cJ2_compress_39247 20 = .ok (.aload_n 0, 1) := by decide +kernel
theorem dJ2_compress_39247_21 : decode cJ2_compress_39247 21 = .ok (.iload_n 1, 1) := by decide +kernel
theorem dJ2_compress_39247_22 : decode cJ2_compress_39247 22 = .ok (.iconst 1, 1) := by decide +kernel
theorem dJ2_compress_39247_23 : decode cJ2_compress_39247 23 = .ok (.ishl, 1) := by decide +kernel
theorem dJ2_compress_39247_24 : decode cJ2_compress_39247 24 = .ok (.iload_n 1, 1) := by decide +kernel
theorem dJ2_compress_39247_25 : decode cJ2_compress_39247 25 = .ok (.iload_n 2, 1) := by decide +kernel
theorem dJ2_compress_39247_26 : decode cJ2_compress_39247 26 = .ok (.iadd, 1) := by decide +kernel
theorem dJ2_compress_39247_27 : decode cJ2_compress_39247 27 = .ok (.invokestatic 11, 3) := by decide +kernel
theorem dJ2_compress_39247_30 : decode cJ2_compress_39247 30 = .ok (.invokestatic 126, 3) := by decide +kernel
theorem dJ2_compress_39247_33 : decode cJ2_compress_39247 33 = .ok (.astore 5, 2) := by decide +kernel
theorem dJ2_compress_39247_35 : decode cJ2_compress_39247 35 = .ok (.aload 5, 2) := by decide +kernel
theorem dJ2_compress_39247_37 : decode cJ2_compress_39247 37 = .ok (.iload 4, 2) := by decide +kernel
theorem dJ2_compress_39247_39 : decode cJ2_compress_39247 39 = .ok (.invokestatic 71, 3) := by decide +kernel
theorem dJ2_compress_39247_42 : decode cJ2_compress_39247 42 = .ok (.sipush 255, 3) := by decide +kernel
theorem dJ2_compress_39247_45 : decode cJ2_compress_39247 45 = .ok (.if_icmp .gt 16, 3) := by decide +kernel
theorem dJ2_compress_39247_48 : decode cJ2_compress_39247 48 = .ok (.aload 5, 2) := by decide +kernel
theorem dJ2_compress_39247_50 : decode cJ2_compress_39247 50 = .ok (.iconst 0, 1) := by decide +kernel
theorem dJ2_compress_39247_51 : decode cJ2_compress_39247 51 = .ok (.aload_n 3, 1) := by decide +kernel
theorem dJ2_compress_39247_52 : decode cJ2_compress_39247 52 = .ok (.iconst 0, 1) := by decide +kernel
theorem dJ2_compress_39247_53 : decode cJ2_compress_39247 53 = .ok (.iload_n 2, 1) := by decide +kernel
theorem dJ2_compress_39247_54 : decode cJ2_compress_39247 54 = .ok (.invokestatic 123, 3) := by decide +kernel
theorem dJ2_compress_39247_57 : decode cJ2_compress_39247 57 = .ok (.iload_n 2, 1) := by decide +kernel
theorem dJ2_compress_39247_58 : decode cJ2_compress_39247 58 = .ok (.if_icmp .eq 6, 3) := by decide +kernel
theorem dJ2_compress_39247_61 : decode cJ2_compress_39247 61 = .ok (.aload 5, 2) := by decide +kernel
theorem dJ2_compress_39247_63 : decode cJ2_compress_39247 63 = .ok (.areturn, 1) := by decide +kernel
theorem dJ2_compress_39247_64 : decode cJ2_compress_39247 64 = .ok (.aload_n 3, 1) := by decide +kernel
theorem dJ2_compress_39247_65 : decode cJ2_compress_39247 65 = .ok (.areturn, 1) := by decide +kernel
theorem dJ2_compress_5af95_0 : decode cJ2_compress_5af95 0 = .ok (.iload_n 1, 1) := by decide +kernel
theorem dJ2_compress_5af95_1 : decode cJ2_compress_5af95 1 = .ok (.iload 4, 2) := by decide +kernel
theorem dJ2_compress_5af95_3 : decode cJ2_compress_5af95 3 = .ok (.aload_n 0, 1) := by decide +kernel
theorem dJ2_compress_5af95_4 : decode cJ2_compress_5af95 4 = .ok (.invokestatic 173, 3) := by decide +kernel
theorem dJ2_compress_5af95_7 : decode cJ2_compress_5af95 7 = .ok (.iconst 0, 1) := by decide +kernel
theorem dJ2_compress_5af95_8 : decode cJ2_compress_5af95 8 = .ok (.istore 5, 2) := by decide +kernel
theorem dJ2_compress_5af95_10 : decode cJ2_compress_5af95 10 = .ok (.iload 5, 2) := by decide +kernel
theorem dJ2_compress_5af95_12 : decode cJ2_compress_5af95 12 = .ok (.iload 4, 2) := by decide +kernel
theorem dJ2_compress_5af95_14 : decode cJ2_compress_5af95 14 = .ok (.if_icmp .ge 39, 3) := by decide +kernel
theorem dJ2_compress_5af95_17 : decode cJ2_compress_5af95 17 = .ok (.aload_n 0, 1) := by decide +kernel
theorem dJ2_compress_5af95_18 : decode cJ2_compress_5af95 18 = .ok (.iload_n 1, 1) := by decide +kernel
theorem dJ2_compress_5af95_19 : decode cJ2_compress_5af95 19 = .ok (.invokestatic 71, 3) := by decide +kernel
theorem dJ2_compress_5af95_22 : decode cJ2_compress_5af95 22 = .ok (.istore 6, 2) := by decide +kernel
theorem dJ2_compress_5af95_24 : decode cJ2_compress_5af95 24 = .ok (.iload 6, 2) := by decide +kernel
theorem dJ2_compress_5af95_26 : decode cJ2_compress_5af95 26 = .ok (.sipush 255, 3) := by decide +kernel
theorem dJ2_compress_5af95_29 : decode cJ2_compress_5af95 29 = .ok (.if_icmp .le 6, 3) := by decide +kernel
theorem dJ2_compress_5af95_32 : decode cJ2_compress_5af95 32 = .ok (.iload 5, 2) := by decide +kernel
theorem dJ2_compress_5af95_34 : decode cJ2_compress_5af95 34 = .ok (.ireturn, 1) := by decide +kernel
theorem dJ2_compress_5af95_35 : decode cJ2_compress_5af95 35 = .ok (.aload_n 2, 1) := by decide +kernel
theorem dJ2_compress_5af95_36 : decode cJ2_compress_5af95 36 = .ok (.iload_n 3, 1) := by decide +kernel
theorem dJ2_compress_5af95_37 : decode cJ2_compress_5af95 37 = .ok (.iload 6, 2) := by decide +kernel
theorem dJ2_compress_5af95_39 : decode cJ2_compress_5af95 39 = .ok (.i2b, 1) := by decide +kernel
theorem dJ2_compress_5af95_40 : decode cJ2_compress_5af95 40 = .ok (.bastore, 1) := by decide +kernel
theorem dJ2_compress_5af95_41 : decode cJ2_compress_5af95 41 = .ok (.iinc 1 1, 3) := by decide +kernel
theorem dJ2_compress_5af95_44 : decode cJ2_compress_5af95 44 = .ok (.iinc 3 1, 3) := by decide +kernel
theorem dJ2_compress_5af95_47 : decode cJ2_compress_5af95 47 = .ok (.iinc 5 1, 3) := by decide +kernel
theorem dJ2_compress_5af95_50 : decode cJ2_compress_5af95 50 = .ok (.goto (-40), 3) := by decide +kernel
theorem dJ2_compress_5af95_53 : decode cJ2_compress_5af95 53 = .ok (.iload 4, 2) := by decide +kernel
theorem dJ2_compress_5af95_55 : decode cJ2_compress_5af95 55 = .ok (.ireturn, 1) := by decide +kernel
theorem dJ2_fillNull_b72d1_0 : decode cJ2_fillNull_b72d1 0 = .ok (.aload_n 0, 1) := by decide +kernel
theorem dJ2_fillNull_b72d1_1 : decode cJ2_fillNull_b72d1 1 = .ok (.iload_n 1, 1) := by decide +kernel
theorem dJ2_fillNull_b72d1_2 : decode cJ2_fillNull_b72d1 2 = .ok (.iconst 1, 1) := by decide +kernel
theorem dJ2_fillNull_b72d1_3 : decode cJ2_fillNull_b72d1 3 = .ok (.ishl, 1) := by decide +kernel
theorem dJ2_fillNull_b72d1_4 : decode cJ2_fillNull_b72d1 4 = .ok (.iload_n 2, 1) := by decide +kernel
theorem dJ2_fillNull_b72d1_5 : decode cJ2_fillNull_b72d1 5 = .ok (.iconst 1, 1) := by decide +kernel
theorem dJ2_fillNull_b72d1_6 : decode cJ2_fillNull_b72d1 6 = .ok (.ishl, 1) := by decide +kernel
theorem dJ2_fillNull_b72d1_7 : decode cJ2_fillNull_b72d1 7 = .ok (.iconst 0, 1) := by decide +kernel
theorem dJ2_fillNull_b72d1_8 : decode cJ2_fillNull_b72d1 8 = .ok (.invokestatic 380, 3) := by decide +kernel
theorem dJ2_fillNull_b72d1_11 : decode cJ2_fillNull_b72d1 11 = .ok (.return_, 1) := by decide +kernel
theorem dJ2_getChars_46870_0 : decode cJ2_getChars_46870 0 = .ok (.iload_n 1, 1) := by decide +kernel
theorem dJ2_getChars_46870_1 : decode cJ2_getChars_46870 1 = .ok (.iload_n 2, 1) := by decide +kernel
theorem dJ2_getChars_46870_2 : decode cJ2_getChars_46870 2 = .ok (.aload_n 3, 1) := by decide +kernel
theorem dJ2_getChars_46870_3 : decode cJ2_getChars_46870 3 = .ok (.invokestatic 96, 3) := by decide +kernel
theorem dJ2_getChars_46870_6 : decode cJ2_getChars_46870 6 = .ok (.iload_n 0, 1) := by decide +kernel
theorem dJ2_getChars_46870_7 : decode cJ2_getChars_46870 7 = .ok (.iload_n 2, 1) := by decide +kernel
theorem dJ2_getChars_46870_8 : decode cJ2_getChars_46870 8 = .ok (.aload_n 3, 1) := by decide +kernel
theorem dJ2_getChars_46870_9 : decode cJ2_getChars_46870 9 = .ok (.invokestatic 393, 3) := by decide +kernel
theorem dJ2_getChars_46870_12 : decode cJ2_getChars_46870 12 = .ok (.istore 4, 2) := by decide +kernel
theorem dJ2_getChars_46870_14 : decode cJ2_getChars_46870 14 = .ok (.getstatic 44, 3) := by decide +kernel
theorem dJ2_getChars_46870_17 : decode cJ2_getChars_46870 17 = .ok (.ifCond .ne 17, 3) := by decide +kernel
theorem dJ2_getChars_46870_20 : decode cJ2_getChars_46870 20 = .ok (.iload_n 1, 1) := by decide +kernel
theorem dJ2_getChars_46870_21 : decode cJ2_getChars_46870 21 = .ok (.iload 4, 2) := by decide +kernel
theorem dJ2_getChars_46870_23 : decode cJ2_getChars_46870 23 = .ok (.if_icmp .eq 11, 3) := by decide +kernel
theorem dJ2_getChars_46870_26 : decode cJ2_getChars_46870 26 = .ok (.new 52, 3) := by decide +kernel
theorem dJ2_getChars_46870_29 : decode cJ2_getChars_46870 29 = .ok (.dup, 1) := by decide +kernel
theorem dJ2_getChars_46870_30 : decode cJ2_getChars_46870 30 = .ok (.invokespecial 66, 3) := by decide +kernel
theorem dJ2_getChars_46870_33 : decode cJ2_getChars_46870 33 = .ok (.athrow, 1) := by decide +kernel
theorem dJ2_getChars_46870_34 : decode cJ2_getChars_46870 34 = .ok (.iload 4, 2) := by decide +kernel
theorem dJ2_getChars_46870_36 : decode cJ2_getChars_46870 36 = .ok (.ireturn, 1) := by decide +kernel
theorem dJ2_putCharsAt_cd4e5_0 : decode cJ2_putCharsAt_cd4e5 0 = .ok (.iload_n 1, 1) := by decide +kernel
theorem dJ2_putCharsAt_cd4e5_1 : decode cJ2_putCharsAt_cd4e5 1 = .ok (.iconst 4, 1) := by decide +kernel
theorem dJ2_putCharsAt_cd4e5_2 : decode cJ2_putCharsAt_cd4e5 2 = .ok (.iadd, 1) := by decide +kernel
theorem dJ2_putCharsAt_cd4e5_3 : decode cJ2_putCharsAt_cd4e5 3 = .ok (.istore 6, 2) := by decide +kernel
theorem dJ2_putCharsAt_cd4e5_5 : decode cJ2_putCharsAt_cd4e5 5 = .ok (.iload_n 1, 1) := by decide +kernel
theorem dJ2_putCharsAt_cd4e5_6 : decode cJ2_putCharsAt_cd4e5 6 = .ok (.iload 6, 2) := by decide +kernel
theorem dJ2_putCharsAt_cd4e5_8 : decode cJ2_putCharsAt_cd4e5 8 = .ok (.aload_n 0, 1) := by decide +kernel
theorem dJ2_putCharsAt_cd4e5_9 : decode cJ2_putCharsAt_cd4e5 9 = .ok (.invokestatic 96, 3) := by decide +kernel
theorem dJ2_putCharsAt_cd4e5_12 : decode cJ2_putCharsAt_cd4e5 12 = .ok (.aload_n 0, 1) := by decide +kernel
theorem dJ2_putCharsAt_cd4e5_13 : decode cJ2_putCharsAt_cd4e5 13 = .ok (.iload_n 1, 1) := by decide +kernel
theorem dJ2_putCharsAt_cd4e5_14 : decode cJ2_putCharsAt_cd4e5 14 = .ok (.iinc 1 1, 3) := by decide +kernel
theorem dJ2_putCharsAt_cd4e5_17 : decode cJ2_putCharsAt_cd4e5 17 = .ok (.iload_n 2, 1) := by decide +kernel
theorem dJ2_putCharsAt_cd4e5_18 : decode cJ2_putCharsAt_cd4e5 18 = .ok (.invokestatic 111, 3) := by decide +kernel
theorem dJ2_putCharsAt_cd4e5_21 : decode cJ2_putCharsAt_cd4e5 21 = .ok (.aload_n 0, 1) := by decide +kernel
theorem dJ2_putCharsAt_cd4e5_22 : decode cJ2_putCharsAt_cd4e5 22 = .ok (.iload_n 1, 1) := by decide +kernel
theorem dJ2_putCharsAt_cd4e5_23 : decode cJ2_putCharsAt_cd4e5 23 = .ok (.iinc 1 1, 3) := by decide +kernel
theorem dJ2_putCharsAt_cd4e5_26 : decode cJ2_putCharsAt_cd4e5 26 = .ok (.iload_n 3, 1) := by decide +kernel
theorem dJ2_putCharsAt_cd4e5_27 : decode cJ2_putCharsAt_cd4e5 27 = .ok (.invokestatic 111, 3) := by decide +kernel
theorem dJ2_putCharsAt_cd4e5_30 : decode cJ2_putCharsAt_cd4e5 30 = .ok (.aload_n 0, 1) := by decide +kernel
theorem dJ2_putCharsAt_cd4e5_31 : decode cJ2_putCharsAt_cd4e5 31 = .ok (.iload_n 1, 1) := by decide +kernel
theorem dJ2_putCharsAt_cd4e5_32 : decode cJ2_putCharsAt_cd4e5 32 = .ok (.iinc 1 1, 3) := by decide +kernel
theorem dJ2_putCharsAt_cd4e5_35 : decode cJ2_putCharsAt_cd4e5 35 = .ok (.iload 4, 2) := by decide +kernel
theorem dJ2_putCharsAt_cd4e5_37 : decode cJ2_putCharsAt_cd4e5 37 = .ok (.invokestatic 111, 3) := by decide +kernel
theorem dJ2_putCharsAt_cd4e5_40 : decode cJ2_putCharsAt_cd4e5 40 = .ok (.aload_n 0, 1) := by decide +kernel
theorem dJ2_putCharsAt_cd4e5_41 : decode cJ2_putCharsAt_cd4e5 41 = .ok (.iload_n 1, 1) := by decide +kernel
theorem dJ2_putCharsAt_cd4e5_42 : decode cJ2_putCharsAt_cd4e5 42 = .ok (.iinc 1 1, 3) := by decide +kernel
theorem dJ2_putCharsAt_cd4e5_45 : decode cJ2_putCharsAt_cd4e5 45 = .ok (.iload 5, 2) := by decide +kernel
theorem dJ2_putCharsAt_cd4e5_47 : decode cJ2_putCharsAt_cd4e5 47 = .ok (.invokestatic 111, 3) := by decide +kernel
theorem dJ2_putCharsAt_cd4e5_50 : decode cJ2_putCharsAt_cd4e5 50 = .ok (.getstatic 44, 3) := by decide +kernel
theorem dJ2_putCharsAt_cd4e5_53 : decode cJ2_putCharsAt_cd4e5 53 = .ok (.ifCond .ne 17, 3) := by decide +kernel
theorem dJ2_putCharsAt_cd4e5_56 : decode cJ2_putCharsAt_cd4e5 56 = .ok (.iload_n 1, 1) := by decide +kernel
theorem dJ2_putCharsAt_cd4e5_57 : decode cJ2_putCharsAt_cd4e5 57 = .ok (.iload 6, 2) := by decide +kernel
theorem dJ2_putCharsAt_cd4e5_59 : decode cJ2_putCharsAt_cd4e5 59 = .ok (.if_icmp .eq 11, 3) := by decide +kernel
theorem dJ2_putCharsAt_cd4e5_62 : decode cJ2_putCharsAt_cd4e5 62 = .ok (.new 52, 3) := by decide +kernel
theorem dJ2_putCharsAt_cd4e5_65 : decode cJ2_putCharsAt_cd4e5 65 = .ok (.dup, 1) := by decide +kernel
theorem dJ2_putCharsAt_cd4e5_66 : decode cJ2_putCharsAt_cd4e5 66 = .ok (.invokespecial 66, 3) := by decide +kernel
theorem dJ2_putCharsAt_cd4e5_69 : decode cJ2_putCharsAt_cd4e5 69 = .ok (.athrow, 1) := by decide +kernel
theorem dJ2_putCharsAt_cd4e5_70 : decode cJ2_putCharsAt_cd4e5 70 = .ok (.iload 6, 2) := by decide +kernel
theorem dJ2_putCharsAt_cd4e5_72 : decode cJ2_putCharsAt_cd4e5 72 = .ok (.ireturn, 1) := by decide +kernel
theorem dJ2_inflate_0e8fd_0 : decode cJ2_inflate_0e8fd 0 = .ok (.iload_n 3, 1) := by decide +kernel
theorem dJ2_inflate_0e8fd_1 : decode cJ2_inflate_0e8fd 1 = .ok (.iload 4, 2) := by decide +kernel
theorem dJ2_inflate_0e8fd_3 : decode cJ2_inflate_0e8fd 3 = .ok (.aload_n 2, 1) := by decide +kernel
theorem dJ2_inflate_0e8fd_4 : decode cJ2_inflate_0e8fd 4 = .ok (.invokestatic 173, 3) := by decide +kernel
theorem dJ2_inflate_0e8fd_7 : decode cJ2_inflate_0e8fd 7 = .ok (.iconst 0, 1) := by decide +kernel
theorem dJ2_inflate_0e8fd_8 : decode cJ2_inflate_0e8fd 8 = .ok (.istore 5, 2) := by decide +kernel
theorem dJ2_inflate_0e8fd_10 : decode cJ2_inflate_0e8fd 10 = .ok (.iload 5, 2) := by decide +kernel
theorem dJ2_inflate_0e8fd_12 : decode cJ2_inflate_0e8fd 12 = .ok (.iload 4, 2) := by decide +kernel
theorem dJ2_inflate_0e8fd_14 : decode cJ2_inflate_0e8fd 14 = .ok (.if_icmp .ge 27, 3) := by decide +kernel
theorem dJ2_inflate_0e8fd_17 : decode cJ2_inflate_0e8fd 17 = .ok (.aload_n 2, 1) := by decide +kernel
theorem dJ2_inflate_0e8fd_18 : decode cJ2_inflate_0e8fd 18 = .ok (.iload_n 3, 1) := by decide +kernel
theorem dJ2_inflate_0e8fd_19 : decode cJ2_inflate_0e8fd 19 = .ok (.iinc 3 1, 3) := by decide +kernel
theorem dJ2_inflate_0e8fd_22 : decode cJ2_inflate_0e8fd 22 = .ok (.aload_n 0, 1) := by decide +kernel
theorem dJ2_inflate_0e8fd_23 : decode cJ2_inflate_0e8fd 23 = .ok (.iload_n 1, 1) := by decide +kernel
theorem dJ2_inflate_0e8fd_24 : decode cJ2_inflate_0e8fd 24 = .ok (.iinc 1 1, 3) := by decide +kernel
theorem dJ2_inflate_0e8fd_27 : decode cJ2_inflate_0e8fd 27 = .ok (.baload, 1) := by decide +kernel
theorem dJ2_inflate_0e8fd_28 : decode cJ2_inflate_0e8fd 28 = .ok (.sipush 255, 3) := by decide +kernel
theorem dJ2_inflate_0e8fd_31 : decode cJ2_inflate_0e8fd 31 = .ok (.iand, 1) := by decide +kernel
theorem dJ2_inflate_0e8fd_32 : decode cJ2_inflate_0e8fd 32 = .ok (.invokestatic 111, 3) := by decide +kernel
theorem dJ2_inflate_0e8fd_35 : decode cJ2_inflate_0e8fd 35 = .ok (.iinc 5 1, 3) := by decide +kernel
theorem dJ2_inflate_0e8fd_38 : decode cJ2_inflate_0e8fd 38 = .ok (.goto (-28), 3) := by decide +kernel
theorem dJ2_inflate_0e8fd_41 : decode cJ2_inflate_0e8fd 41 = .ok (.return_, 1) := by decide +kernel
theorem dJ2_getChars_ba4f3_0 : decode cJ2_getChars_ba4f3 0 = .ok (.iload_n 1, 1) := by decide +kernel
theorem dJ2_getChars_ba4f3_1 : decode cJ2_getChars_ba4f3 1 = .ok (.istore 5, 2) := by decide +kernel
theorem dJ2_getChars_ba4f3_3 : decode cJ2_getChars_ba4f3 3 = .ok (.iload_n 0, 1) := by decide +kernel
theorem dJ2_getChars_ba4f3_4 : decode cJ2_getChars_ba4f3 4 = .ok (.ifCond .ge 7, 3) := by decide +kernel
theorem dJ2_getChars_ba4f3_7 : decode cJ2_getChars_ba4f3 7 = .ok (.iconst 1, 1) := by decide +kernel
theorem dJ2_getChars_ba4f3_8 : decode cJ2_getChars_ba4f3 8 = .ok (.goto 4, 3) := by decide +kernel
theorem dJ2_getChars_ba4f3_11 : decode cJ2_getChars_ba4f3 11 = .ok (.iconst 0, 1) := by decide +kernel
theorem dJ2_getChars_ba4f3_12 : decode cJ2_getChars_ba4f3 12 = .ok (.istore 6, 2) := by decide +kernel
theorem dJ2_getChars_ba4f3_14 : decode cJ2_getChars_ba4f3 14 = .ok (.iload 6, 2) := by decide +kernel
theorem dJ2_getChars_ba4f3_16 : decode cJ2_getChars_ba4f3 16 = .ok (.ifCond .ne 6, 3) := by decide +kernel
theorem dJ2_getChars_ba4f3_19 : decode cJ2_getChars_ba4f3 19 = .ok (.iload_n 0, 1) := by decide +kernel
theorem dJ2_getChars_ba4f3_20 : decode cJ2_getChars_ba4f3 20 = .ok (.ineg, 1) := by decide +kernel
theorem dJ2_getChars_ba4f3_21 : decode cJ2_getChars_ba4f3 21 = .ok (.istore_n 0, 1) := by decide +kernel
theorem dJ2_getChars_ba4f3_22 : decode cJ2_getChars_ba4f3 22 = .ok (.iload_n 0, 1) := by decide +kernel
theorem dJ2_getChars_ba4f3_23 : decode cJ2_getChars_ba4f3 23 = .ok (.bipush (-100), 2) := by decide +kernel
theorem dJ2_getChars_ba4f3_25 : decode cJ2_getChars_ba4f3 25 = .ok (.if_icmp .gt 51, 3) := by decide +kernel
theorem dJ2_getChars_ba4f3_28 : decode cJ2_getChars_ba4f3 28 = .ok (.iload_n 0, 1) := by decide +kernel
theorem dJ2_getChars_ba4f3_29 : decode cJ2_getChars_ba4f3 29 = .ok (.bipush 100, 2) := by decide +kernel
theorem dJ2_getChars_ba4f3_31 : decode cJ2_getChars_ba4f3 31 = .ok (.idiv, 1) := by decide +kernel
theorem dJ2_getChars_ba4f3_32 : decode cJ2_getChars_ba4f3 32 = .ok (.istore_n 3, 1) := by decide +kernel
theorem dJ2_getChars_ba4f3_33 : decode cJ2_getChars_ba4f3 33 = .ok (.iload_n 3, 1) := by decide +kernel
theorem dJ2_getChars_ba4f3_34 : decode cJ2_getChars_ba4f3 34 = .ok (.bipush 100, 2) := by decide +kernel
theorem dJ2_getChars_ba4f3_36 : decode cJ2_getChars_ba4f3 36 = .ok (.imul, 1) := by decide +kernel
theorem dJ2_getChars_ba4f3_37 : decode cJ2_getChars_ba4f3 37 = .ok (.iload_n 0, 1) := by decide +kernel
theorem dJ2_getChars_ba4f3_38 : decode cJ2_getChars_ba4f3 38 = .ok (.isub, 1) := by decide +kernel
theorem dJ2_getChars_ba4f3_39 : decode cJ2_getChars_ba4f3 39 = .ok (.istore 4, 2) := by decide +kernel
theorem dJ2_getChars_ba4f3_41 : decode cJ2_getChars_ba4f3 41 = .ok (.iload_n 3, 1) := by decide +kernel
theorem dJ2_getChars_ba4f3_42 : decode cJ2_getChars_ba4f3 42 = .ok (.istore_n 0, 1) := by decide +kernel
theorem dJ2_getChars_ba4f3_43 : decode cJ2_getChars_ba4f3 43 = .ok (.aload_n 2, 1) := by decide +kernel
theorem dJ2_getChars_ba4f3_44 : decode cJ2_getChars_ba4f3 44 = .ok (.iinc 5 (-1), 3) := by decide +kernel
theorem dJ2_getChars_ba4f3_47 : decode cJ2_getChars_ba4f3 47 = .ok (.iload 5, 2) := by decide +kernel
theorem dJ2_getChars_ba4f3_49 : decode cJ2_getChars_ba4f3 49 = .ok (.getstatic 403, 3) := by decide +kernel
theorem dJ2_getChars_ba4f3_52 : decode cJ2_getChars_ba4f3 52 = .ok (.iload 4, 2) := by decide +kernel
theorem dJ2_getChars_ba4f3_54 : decode cJ2_getChars_ba4f3 54 = .ok (.baload, 1) := by decide +kernel
theorem dJ2_getChars_ba4f3_55 : decode cJ2_getChars_ba4f3 55 = .ok (.invokestatic 111, 3) := by decide +kernel
theorem dJ2_getChars_ba4f3_58 : decode cJ2_getChars_ba4f3 58 = .ok (.aload_n 2, 1) := by decide +kernel
theorem dJ2_getChars_ba4f3_59 : decode cJ2_getChars_ba4f3 59 = .ok (.iinc 5 (-1), 3) := by decide +kernel
theorem dJ2_getChars_ba4f3_62 : decode cJ2_getChars_ba4f3 62 = .ok (.iload 5, 2) := by decide +kernel
theorem dJ2_getChars_ba4f3_64 : decode cJ2_getChars_ba4f3 64 = .ok (.getstatic 407, 3) := by decide +kernel
theorem dJ2_getChars_ba4f3_67 : decode cJ2_getChars_ba4f3 67 = .ok (.iload 4, 2) := by decide +kernel
theorem dJ2_getChars_ba4f3_69 : decode cJ2_getChars_ba4f3 69 = .ok (.baload, 1) := by decide +kernel
theorem dJ2_getChars_ba4f3_70 : decode cJ2_getChars_ba4f3 70 = .ok (.invokestatic 111, 3) := by decide +kernel
theorem dJ2_getChars_ba4f3_73 : decode cJ2_getChars_ba4f3 73 = .ok (.goto (-51), 3) := by decide +kernel
theorem dJ2_getChars_ba4f3_76 : decode cJ2_getChars_ba4f3 76 = .ok (.aload_n 2, 1) := by decide +kernel
theorem dJ2_getChars_ba4f3_77 : decode cJ2_getChars_ba4f3 77 = .ok (.iinc 5 (-1), 3) := by decide +kernel
theorem dJ2_getChars_ba4f3_80 : decode cJ2_getChars_ba4f3 80 = .ok (.iload 5, 2) := by decide +kernel
theorem dJ2_getChars_ba4f3_82 : decode cJ2_getChars_ba4f3 82 = .ok (.getstatic 403, 3) := by decide +kernel
theorem dJ2_getChars_ba4f3_85 : decode cJ2_getChars_ba4f3 85 = .ok (.iload_n 0, 1) := by decide +kernel
theorem dJ2_getChars_ba4f3_86 : decode cJ2_getChars_ba4f3 86 = .ok (.ineg, 1) := by decide +kernel
theorem dJ2_getChars_ba4f3_87 : decode cJ2_getChars_ba4f3 87 = .ok (.baload, 1) := by decide +kernel
theorem dJ2_getChars_ba4f3_88 : decode cJ2_getChars_ba4f3 88 = .ok (.invokestatic 111, 3) := by decide +kernel
theorem dJ2_getChars_ba4f3_91 : decode cJ2_getChars_ba4f3 91 = .ok (.iload_n 0, 1) := by decide +kernel
theorem dJ2_getChars_ba4f3_92 : decode cJ2_getChars_ba4f3 92 = .ok (.bipush (-9), 2) := by decide +kernel
theorem dJ2_getChars_ba4f3_94 : decode cJ2_getChars_ba4f3 94 = .ok (.if_icmp .ge 18, 3) := by decide +kernel
theorem dJ2_getChars_ba4f3_97 : decode cJ2_getChars_ba4f3 97 = .ok (.aload_n 2, 1) := by decide +kernel
theorem dJ2_getChars_ba4f3_98 : decode cJ2_getChars_ba4f3 98 = .ok (.iinc 5 (-1), 3) := by decide +kernel
theorem dJ2_getChars_ba4f3_101 : decode cJ2_getChars_ba4f3 101 = .ok (.iload 5, 2) := by decide +kernel
theorem dJ2_getChars_ba4f3_103 : decode cJ2_getChars_ba4f3 103 = .ok (.getstatic 407, 3) := by decide +kernel
theorem dJ2_getChars_ba4f3_106 : decode cJ2_getChars_ba4f3 106 = .ok (.iload_n 0, 1) := by decide +kernel
theorem dJ2_getChars_ba4f3_107 : decode cJ2_getChars_ba4f3 107 = .ok (.ineg, 1) := by decide +kernel
theorem dJ2_getChars_ba4f3_108 : decode cJ2_getChars_ba4f3 108 = .ok (.baload, 1) := by decide +kernel
theorem dJ2_getChars_ba4f3_109 : decode cJ2_getChars_ba4f3 109 = .ok (.invokestatic 111, 3) := by decide +kernel
theorem dJ2_getChars_ba4f3_112 : decode cJ2_getChars_ba4f3 112 = .ok (.iload 6, 2) := by decide +kernel
theorem dJ2_getChars_ba4f3_114 : decode cJ2_getChars_ba4f3 114 = .ok (.ifCond .eq 14, 3) := by decide +kernel
theorem dJ2_getChars_ba4f3_117 : decode cJ2_getChars_ba4f3 117 = .ok (.aload_n 2, 1) := by decide +kernel
theorem dJ2_getChars_ba4f3_118 : decode cJ2_getChars_ba4f3 118 = .ok (.iinc 5 (-1), 3) := by decide +kernel
theorem dJ2_getChars_ba4f3_121 : decode cJ2_getChars_ba4f3 121 = .ok (.iload 5, 2) := by decide +kernel
theorem dJ2_getChars_ba4f3_123 : decode cJ2_getChars_ba4f3 123 = .ok (.bipush 45, 2) := by decide +kernel
theorem dJ2_getChars_ba4f3_125 : decode cJ2_getChars_ba4f3 125 = .ok (.invokestatic 111, 3) := by decide +kernel
theorem dJ2_getChars_ba4f3_128 : decode cJ2_getChars_ba4f3 128 = .ok (.iload 5, 2) := by decide +kernel
theorem dJ2_getChars_ba4f3_130 : decode cJ2_getChars_ba4f3 130 = .ok (.ireturn, 1) := by decide +kernel
theorem dJ2_checkBoundsBeginEnd_d044e_0 : decode cJ2_checkBoundsBeginEnd_d044e 0 = .ok (.iload_n 0, 1) := by decide +kernel
theorem dJ2_checkBoundsBeginEnd_d044e_1 : decode cJ2_checkBoundsBeginEnd_d044e 1 = .ok (.iload_n 1, 1) := by decide +kernel
theorem dJ2_checkBoundsBeginEnd_d044e_2 : decode cJ2_checkBoundsBeginEnd_d044e 2 = .ok (.aload_n 2, 1) := by decide +kernel
theorem dJ2_checkBoundsBeginEnd_d044e_3 : decode cJ2_checkBoundsBeginEnd_d044e 3 = .ok (.invokestatic 48, 3) := by decide +kernel
theorem dJ2_checkBoundsBeginEnd_d044e_6 : decode cJ2_checkBoundsBeginEnd_d044e 6 = .ok (.invokestatic 241, 3) := by decide +kernel
theorem dJ2_checkBoundsBeginEnd_d044e_9 : decode cJ2_checkBoundsBeginEnd_d044e 9 = .ok (.return_, 1) := by decide +kernel
theorem dJ2_checkBoundsOffCount_d044e_0 : decode cJ2_checkBoundsOffCount_d044e 0 = .ok (.iload_n 0, 1) := by decide +kernel
theorem dJ2_checkBoundsOffCount_d044e_1 : decode cJ2_checkBoundsOffCount_d044e 1 = .ok (.iload_n 1, 1) := by decide +kernel
theorem dJ2_checkBoundsOffCount_d044e_2 : decode cJ2_checkBoundsOffCount_d044e 2 = .ok (.aload_n 2, 1) := by decide +kernel
theorem dJ2_checkBoundsOffCount_d044e_3 : decode cJ2_checkBoundsOffCount_d044e 3 = .ok (.invokestatic 48, 3) := by decide +kernel
theorem dJ2_checkBoundsOffCount_d044e_6 : decode cJ2_checkBoundsOffCount_d044e 6 = .ok (.invokestatic 419, 3) := by decide +kernel
theorem dJ2_checkBoundsOffCount_d044e_9 : decode cJ2_checkBoundsOffCount_d044e 9 = .ok (.pop, 1) := by decide +kernel
theorem dJ2_checkBoundsOffCount_d044e_10 : decode cJ2_checkBoundsOffCount_d044e 10 = .ok (.return_, 1) := by decide +kernel
theorem dJxa1e45_init_da8c8_0 : decode cJxa1e45_init_da8c8 0 = .ok (.aload_n 0, 1) := by decide +kernel
theorem dJxa1e45_init_da8c8_1 : decode cJxa1e45_init_da8c8 1 = .ok (.invokespecial 1, 3) := by decide +kernel
theorem dJxa1e45_init_da8c8_4 : decode cJxa1e45_init_da8c8 4 = .ok (.return_, 1) := by decide +kernel
theorem dJxc12de_init_da8c8_0 : decode cJxc12de_init_da8c8 0 = .ok (.aload_n 0, 1) := by decide +kernel
theorem dJxc12de_init_da8c8_1 : decode cJxc12de_init_da8c8 1 = .ok (.invokespecial 1, 3) := by decide +kernel
theorem dJxc12de_init_da8c8_4 : decode cJxc12de_init_da8c8 4 = .ok (.aload_n 0, 1) := by decide +kernel
theorem dJxc12de_init_da8c8_5 : decode cJxc12de_init_da8c8 5 = .ok (.iconst 0, 1) := by decide +kernel
theorem dJxc12de_init_da8c8_6 : decode cJxc12de_init_da8c8 6 = .ok (.putfield 7, 3) := by decide +kernel
theorem dJxc12de_init_da8c8_9 : decode cJxc12de_init_da8c8 9 = .ok (.return_, 1) := by decide +kernel
theorem dJx4a65c_init_da8c8_0 : decode cJx4a65c_init_da8c8 0 = .ok (.aload_n 0, 1) := by decide +kernel
theorem dJx4a65c_init_da8c8_1 : decode cJx4a65c_init_da8c8 1 = .ok (.invokespecial 1, 3) := by decide +kernel
theorem dJx4a65c_init_da8c8_4 : decode cJx4a65c_init_da8c8 4 = .ok (.aload_n 0, 1) := by decide +kernel
theorem dJx4a65c_init_da8c8_5 : decode cJx4a65c_init_da8c8 5 = .ok (.getstatic 39, 3) := by decide +kernel
theorem dJx4a65c_init_da8c8_8 : decode cJx4a65c_init_da8c8 8 = .ok (.putfield 9, 3) := by decide +kernel
theorem dJx4a65c_init_da8c8_11 : decode cJx4a65c_init_da8c8 11 = .ok (.return_, 1) := by decide +kernel
theorem dJx4a65c_grow_92f84_0 : decode cJx4a65c_grow_92f84 0 = .ok (.aload_n 0, 1) := by decide +kernel
theorem dJx4a65c_grow_92f84_1 : decode cJx4a65c_grow_92f84 1 = .ok (.getfield 9, 3) := by decide +kernel
theorem dJx4a65c_grow_92f84_4 : decode cJx4a65c_grow_92f84 4 = .ok (.arraylength, 1) := by decide +kernel
theorem dJx4a65c_grow_92f84_5 : decode cJx4a65c_grow_92f84 5 = .ok (.istore_n 2, 1) := by decide +kernel
theorem dJx4a65c_grow_92f84_6 : decode cJx4a65c_grow_92f84 6 = .ok (.iload_n 2, 1) := by decide +kernel
theorem dJx4a65c_grow_92f84_7 : decode cJx4a65c_grow_92f84 7 = .ok (.ifCond .gt 13, 3) := by decide +kernel
theorem dJx4a65c_grow_92f84_10 : decode cJx4a65c_grow_92f84 10 = .ok (.aload_n 0, 1) := by decide +kernel
theorem dJx4a65c_grow_92f84_11 : decode cJx4a65c_grow_92f84 11 = .ok (.getfield 9, 3) := by decide +kernel
theorem dJx4a65c_grow_92f84_14 : decode cJx4a65c_grow_92f84 14 = .ok (.getstatic 39, 3) := by decide +kernel
theorem dJx4a65c_grow_92f84_17 : decode cJx4a65c_grow_92f84 17 = .ok (.if_acmp .eq 28, 3) := by decide +kernel
theorem dJx4a65c_grow_92f84_20 : decode cJx4a65c_grow_92f84 20 = .ok (.iload_n 2, 1) := by decide +kernel
theorem dJx4a65c_grow_92f84_21 : decode cJx4a65c_grow_92f84 21 = .ok (.iload_n 1, 1) := by decide +kernel
theorem dJx4a65c_grow_92f84_22 : decode cJx4a65c_grow_92f84 22 = .ok (.iload_n 2, 1) := by decide +kernel
theorem dJx4a65c_grow_92f84_23 : decode cJx4a65c_grow_92f84 23 = .ok (.isub, 1) := by decide +kernel
theorem dJx4a65c_grow_92f84_24 : decode cJx4a65c_grow_92f84 24 = .ok (.iload_n 2, 1) := by decide +kernel
theorem dJx4a65c_grow_92f84_25 : decode cJx4a65c_grow_92f84 25 = .ok (.iconst 1, 1) := by decide +kernel
theorem dJx4a65c_grow_92f84_26 : decode cJx4a65c_grow_92f84 26 = .ok (.ishr, 1) := by decide +kernel
theorem dJx4a65c_grow_92f84_27 : decode cJx4a65c_grow_92f84 27 = .ok (.invokestatic 73, 3) := by decide +kernel
theorem dJx4a65c_grow_92f84_30 : decode cJx4a65c_grow_92f84 30 = .ok (.istore_n 3, 1) := by decide +kernel
theorem dJx4a65c_grow_92f84_31 : decode cJx4a65c_grow_92f84 31 = .ok (.aload_n 0, 1) := by decide +kernel
theorem dJx4a65c_grow_92f84_32 : decode cJx4a65c_grow_92f84 32 = .ok (.aload_n 0, 1) := by decide +kernel
theorem dJx4a65c_grow_92f84_33 : decode cJx4a65c_grow_92f84 33 = .ok (.getfield 9, 3) := by decide +kernel
theorem dJx4a65c_grow_92f84_36 : decode cJx4a65c_grow_92f84 36 = .ok (.iload_n 3, 1) := by decide +kernel
theorem dJx4a65c_grow_92f84_37 : decode cJx4a65c_grow_92f84 37 = .ok (.invokestatic 66, 3) := by decide +kernel
theorem dJx4a65c_grow_92f84_40 : decode cJx4a65c_grow_92f84 40 = .ok (.dup_x1, 1) := by decide +kernel
theorem dJx4a65c_grow_92f84_41 : decode cJx4a65c_grow_92f84 41 = .ok (.putfield 9, 3) := by decide +kernel
theorem dJx4a65c_grow_92f84_44 : decode cJx4a65c_grow_92f84 44 = .ok (.areturn, 1) := by decide +kernel
theorem dJx4a65c_grow_92f84_45 : decode cJx4a65c_grow_92f84 45 = .ok (.aload_n 0, 1) := by decide +kernel
theorem dJx4a65c_grow_92f84_46 : decode cJx4a65c_grow_92f84 46 = .ok (.bipush 10, 2) := by decide +kernel
theorem dJx4a65c_grow_92f84_48 : decode cJx4a65c_grow_92f84 48 = .ok (.iload_n 1, 1) := by decide +kernel
theorem dJx4a65c_grow_92f84_49 : decode cJx4a65c_grow_92f84 49 = .ok (.invokestatic 79, 3) := by decide +kernel
theorem dJx4a65c_grow_92f84_52 : decode cJx4a65c_grow_92f84 52 = .ok (.anewarray 7, 3) := by decide +kernel
theorem dJx4a65c_grow_92f84_55 : decode cJx4a65c_grow_92f84 55 = .ok (.dup_x1, 1) := by decide +kernel
theorem dJx4a65c_grow_92f84_56 : decode cJx4a65c_grow_92f84 56 = .ok (.putfield 9, 3) := by decide +kernel
theorem dJx4a65c_grow_92f84_59 : decode cJx4a65c_grow_92f84 59 = .ok (.areturn, 1) := by decide +kernel
theorem dJx4a65c_grow_d5877_0 : decode cJx4a65c_grow_d5877 0 = .ok (.aload_n 0, 1) := by decide +kernel
theorem dJx4a65c_grow_d5877_1 : decode cJx4a65c_grow_d5877 1 = .ok (.aload_n 0, 1) := by decide +kernel
theorem dJx4a65c_grow_d5877_2 : decode cJx4a65c_grow_d5877 2 = .ok (.getfield 48, 3) := by decide +kernel
theorem dJx4a65c_grow_d5877_5 : decode cJx4a65c_grow_d5877 5 = .ok (.iconst 1, 1) := by decide +kernel
theorem dJx4a65c_grow_d5877_6 : decode cJx4a65c_grow_d5877 6 = .ok (.iadd, 1) := by decide +kernel
theorem dJx4a65c_grow_d5877_7 : decode cJx4a65c_grow_d5877 7 = .ok (.invokevirtual 69, 3) := by decide +kernel
theorem dJx4a65c_grow_d5877_10 : decode cJx4a65c_grow_d5877 10 = .ok (.areturn, 1) := by decide +kernel
theorem dJx4a65c_size_8abf5_0 : decode cJx4a65c_size_8abf5 0 = .ok (.aload_n 0, 1) := by decide +kernel
theorem dJx4a65c_size_8abf5_1 : decode cJx4a65c_size_8abf5 1 = .ok (.getfield 48, 3) := by decide +kernel
theorem dJx4a65c_size_8abf5_4 : decode cJx4a65c_size_8abf5 4 = .ok (.ireturn, 1) := by decide +kernel
theorem dJx4a65c_isEmpty_aae02_0 : decode cJx4a65c_isEmpty_aae02 0 = .ok (.aload_n 0, 1) := by decide +kernel
theorem dJx4a65c_isEmpty_aae02_1 : decode cJx4a65c_isEmpty_aae02 1 = .ok (.getfield 48, 3) := by decide +kernel
theorem dJx4a65c_isEmpty_aae02_4 : decode cJx4a65c_isEmpty_aae02 4 = .ok (.ifCond .ne 7, 3) := by decide +kernel
theorem dJx4a65c_isEmpty_aae02_7 : decode cJx4a65c_isEmpty_aae02 7 = .ok (.iconst 1, 1) := by decide +kernel
theorem dJx4a65c_isEmpty_aae02_8 : decode cJx4a65c_isEmpty_aae02 8 = .ok (.goto 4, 3) := by decide +kernel
theorem dJx4a65c_isEmpty_aae02_11 : decode cJx4a65c_isEmpty_aae02 11 = .ok (.iconst 0, 1) := by decide +kernel
theorem dJx4a65c_isEmpty_aae02_12 : decode cJx4a65c_isEmpty_aae02 12 = .ok (.ireturn, 1) := by decide +kernel
theorem dJx4a65c_elementData_915e3_0 : decode cJx4a65c_elementData_915e3 0 = .ok (.aload_n 0, 1) := by decide +kernel
theorem dJx4a65c_elementData_915e3_1 : decode cJx4a65c_elementData_915e3 1 = .ok (.getfield 9, 3) := by decide +kernel
theorem dJx4a65c_elementData_915e3_4 : decode cJx4a65c_elementData_915e3 4 = .ok (.iload_n 1, 1) := by decide +kernel
theorem dJx4a65c_elementData_915e3_5 : decode cJx4a65c_elementData_915e3 5 = .ok (.aaload, 1) := by decide +kernel
theorem dJx4a65c_elementData_915e3_6 : decode cJx4a65c_elementData_915e3 6 = .ok (.areturn, 1) := by decide +kernel
theorem dJx4a65c_get_915e3_0 : decode cJx4a65c_get_915e3 0 = .ok (.iload_n 1, 1) := by decide +kernel
theorem dJx4a65c_get_915e3_1 : decode cJx4a65c_get_915e3 1 = .ok (.aload_n 0, 1) := by decide +kernel
theorem dJx4a65c_get_915e3_2 : decode cJx4a65c_get_915e3 2 = .ok (.getfield 48, 3) := by decide +kernel
theorem dJx4a65c_get_915e3_5 : decode cJx4a65c_get_915e3 5 = .ok (.invokestatic 118, 3) := by decide +kernel
theorem dJx4a65c_get_915e3_8 : decode cJx4a65c_get_915e3 8 = .ok (.pop, 1) := by decide +kernel
theorem dJx4a65c_get_915e3_9 : decode cJx4a65c_get_915e3 9 = .ok (.aload_n 0, 1) := by decide +kernel
theorem dJx4a65c_get_915e3_10 : decode cJx4a65c_get_915e3 10 = .ok (.iload_n 1, 1) := by decide +kernel
theorem dJx4a65c_get_915e3_11 : decode cJx4a65c_get_915e3 11 = .ok (.invokevirtual 123, 3) := by decide +kernel
theorem dJx4a65c_get_915e3_14 : decode cJx4a65c_get_915e3 14 = .ok (.areturn, 1) := by decide +kernel
theorem dJx4a65c_add_72be8_0 : decode cJx4a65c_add_72be8 0 = .ok (.iload_n 3, 1) := by decide +kernel
theorem dJx4a65c_add_72be8_1 : decode cJx4a65c_add_72be8 1 = .ok (.aload_n 2, 1) := by decide +kernel
theorem dJx4a65c_add_72be8_2 : decode cJx4a65c_add_72be8 2 = .ok (.arraylength, 1) := by decide +kernel
theorem dJx4a65c_add_72be8_3 : decode cJx4a65c_add_72be8 3 = .ok (.if_icmp .ne 8, 3) := by decide +kernel
theorem dJx4a65c_add_72be8_6 : decode cJx4a65c_add_72be8 6 = .ok (.aload_n 0, 1) := by decide +kernel
theorem dJx4a65c_add_72be8_7 : decode cJx4a65c_add_72be8 7 = .ok (.invokevirtual 129, 3) := by decide +kernel
theorem dJx4a65c_add_72be8_10 : decode cJx4a65c_add_72be8 10 = .ok (.astore_n 2, 1) := by decide +kernel
theorem dJx4a65c_add_72be8_11 : decode cJx4a65c_add_72be8 11 = .ok (.aload_n 2, 1) := by decide +kernel
theorem dJx4a65c_add_72be8_12 : decode cJx4a65c_add_72be8 12 = .ok (.iload_n 3, 1) := by decide +kernel
theorem dJx4a65c_add_72be8_13 : decode cJx4a65c_add_72be8 13 = .ok (.aload_n 1, 1) := by decide +kernel
theorem dJx4a65c_add_72be8_14 : decode cJx4a65c_add_72be8 14 = .ok (.aastore, 1) := by decide +kernel
theorem dJx4a65c_add_72be8_15 : decode cJx4a65c_add_72be8 15 = .ok (.aload_n 0, 1) := by decide +kernel
theorem dJx4a65c_add_72be8_16 : decode cJx4a65c_add_72be8 16 = .ok (.iload_n 3, 1) := by decide +kernel
theorem dJx4a65c_add_72be8_17 : decode cJx4a65c_add_72be8 17 = .ok (.iconst 1, 1) := by decide +kernel
theorem dJx4a65c_add_72be8_18 : decode cJx4a65c_add_72be8 18 = .ok (.iadd, 1) := by decide +kernel
theorem dJx4a65c_add_72be8_19 : decode cJx4a65c_add_72be8 19 = .ok (.putfield 48, 3) := by decide +kernel
theorem dJx4a65c_add_72be8_22 : decode cJx4a65c_add_72be8 22 = .ok (.return_, 1) := by decide +kernel
theorem dJx4a65c_add_9ea2d_0 : decode cJx4a65c_add_9ea2d 0 = .ok (.aload_n 0, 1) := by decide +kernel
theorem dJx4a65c_add_9ea2d_1 : decode cJx4a65c_add_9ea2d 1 = .ok (.dup, 1) := by decide +kernel
theorem dJx4a65c_add_9ea2d_2 : decode cJx4a65c_add_9ea2d 2 = .ok (.getfield 63, 3) := by decide +kernel
theorem dJx4a65c_add_9ea2d_5 : decode cJx4a65c_add_9ea2d 5 = .ok (.iconst 1, 1) := by decide +kernel
theorem dJx4a65c_add_9ea2d_6 : decode cJx4a65c_add_9ea2d 6 = .ok (.iadd, 1) := by decide +kernel
theorem dJx4a65c_add_9ea2d_7 : decode cJx4a65c_add_9ea2d 7 = .ok (.putfield 63, 3) := by decide +kernel
theorem dJx4a65c_add_9ea2d_10 : decode cJx4a65c_add_9ea2d 10 = .ok (.aload_n 0, 1) := by decide +kernel
theorem dJx4a65c_add_9ea2d_11 : decode cJx4a65c_add_9ea2d 11 = .ok (.aload_n 1, 1) := by decide +kernel
theorem dJx4a65c_add_9ea2d_12 : decode cJx4a65c_add_9ea2d 12 = .ok (.aload_n 0, 1) := by decide +kernel
theorem dJx4a65c_add_9ea2d_13 : decode cJx4a65c_add_9ea2d 13 = .ok (.getfield 9, 3) := by decide +kernel
theorem dJx4a65c_add_9ea2d_16 : decode cJx4a65c_add_9ea2d 16 = .ok (.aload_n 0, 1) := by decide +kernel
theorem dJx4a65c_add_9ea2d_17 : decode cJx4a65c_add_9ea2d 17 = .ok (.getfield 48, 3) := by decide +kernel
theorem dJx4a65c_add_9ea2d_20 : decode cJx4a65c_add_9ea2d 20 = .ok (.invokevirtual 131, 3) := by decide +kernel
theorem dJx4a65c_add_9ea2d_23 : decode cJx4a65c_add_9ea2d 23 = .ok (.iconst 1, 1) := by decide +kernel
theorem dJx4a65c_add_9ea2d_24 : decode cJx4a65c_add_9ea2d 24 = .ok (.ireturn, 1) := by decide +kernel
theorem dJx4a65c_add_7a177_0 : decode cJx4a65c_add_7a177 0 = .ok (.aload_n 0, 1) := by decide +kernel
theorem dJx4a65c_add_7a177_1 : decode cJx4a65c_add_7a177 1 = .ok (.iload_n 1, 1) := by decide +kernel
theorem dJx4a65c_add_7a177_2 : decode cJx4a65c_add_7a177 2 = .ok (.invokevirtual 135, 3) := by decide +kernel
theorem dJx4a65c_add_7a177_5 : decode cJx4a65c_add_7a177 5 = .ok (.aload_n 0, 1) := by decide +kernel
theorem dJx4a65c_add_7a177_6 : decode cJx4a65c_add_7a177 6 = .ok (.dup, 1) := by decide +kernel
theorem dJx4a65c_add_7a177_7 : decode cJx4a65c_add_7a177 7 = .ok (.getfield 63, 3) := by decide +kernel
theorem dJx4a65c_add_7a177_10 : decode cJx4a65c_add_7a177 10 = .ok (.iconst 1, 1) := by decide +kernel
theorem dJx4a65c_add_7a177_11 : decode cJx4a65c_add_7a177 11 = .ok (.iadd, 1) := by decide +kernel
theorem dJx4a65c_add_7a177_12 : decode cJx4a65c_add_7a177 12 = .ok (.putfield 63, 3) := by decide +kernel
theorem dJx4a65c_add_7a177_15 : decode cJx4a65c_add_7a177 15 = .ok (.aload_n 0, 1) := by decide +kernel
theorem dJx4a65c_add_7a177_16 : decode cJx4a65c_add_7a177 16 = .ok (.getfield 48, 3) := by decide +kernel
theorem dJx4a65c_add_7a177_19 : decode cJx4a65c_add_7a177 19 = .ok (.dup, 1) := by decide +kernel
theorem dJx4a65c_add_7a177_20 : decode cJx4a65c_add_7a177 20 = .ok (.istore_n 3, 1) := by decide +kernel
theorem dJx4a65c_add_7a177_21 : decode cJx4a65c_add_7a177 21 = .ok (.aload_n 0, 1) := by decide +kernel
theorem dJx4a65c_add_7a177_22 : decode cJx4a65c_add_7a177 22 = .ok (.getfield 9, 3) := by decide +kernel
theorem dJx4a65c_add_7a177_25 : decode cJx4a65c_add_7a177 25 = .ok (.dup, 1) := by decide +kernel
theorem dJx4a65c_add_7a177_26 : decode cJx4a65c_add_7a177 26 = .ok (.astore 4, 2) := by decide +kernel
theorem dJx4a65c_add_7a177_28 : decode cJx4a65c_add_7a177 28 = .ok (.arraylength, 1) := by decide +kernel
theorem dJx4a65c_add_7a177_29 : decode cJx4a65c_add_7a177 29 = .ok (.if_icmp .ne 9, 3) := by decide +kernel
theorem dJx4a65c_add_7a177_32 : decode cJx4a65c_add_7a177 32 = .ok (.aload_n 0, 1) := by decide +kernel
theorem dJx4a65c_add_7a177_33 : decode cJx4a65c_add_7a177 33 = .ok (.invokevirtual 129, 3) := by decide +kernel
theorem dJx4a65c_add_7a177_36 : decode cJx4a65c_add_7a177 36 = .ok (.astore 4, 2) := by decide +kernel
theorem dJx4a65c_add_7a177_38 : decode cJx4a65c_add_7a177 38 = .ok (.aload 4, 2) := by decide +kernel
theorem dJx4a65c_add_7a177_40 : decode cJx4a65c_add_7a177 40 = .ok (.iload_n 1, 1) := by decide +kernel
theorem dJx4a65c_add_7a177_41 : decode cJx4a65c_add_7a177 41 = .ok (.aload 4, 2) := by decide +kernel
theorem dJx4a65c_add_7a177_43 : decode cJx4a65c_add_7a177 43 = .ok (.iload_n 1, 1) := by decide +kernel
theorem dJx4a65c_add_7a177_44 : decode cJx4a65c_add_7a177 44 = .ok (.iconst 1, 1) := by decide +kernel
theorem dJx4a65c_add_7a177_45 : decode cJx4a65c_add_7a177 45 = .ok (.iadd, 1) := by decide +kernel
theorem dJx4a65c_add_7a177_46 : decode cJx4a65c_add_7a177 46 = .ok (.iload_n 3, 1) := by decide +kernel
theorem dJx4a65c_add_7a177_47 : decode cJx4a65c_add_7a177 47 = .ok (.iload_n 1, 1) := by decide +kernel
theorem dJx4a65c_add_7a177_48 : decode cJx4a65c_add_7a177 48 = .ok (.isub, 1) := by decide +kernel
theorem dJx4a65c_add_7a177_49 : decode cJx4a65c_add_7a177 49 = .ok (.invokestatic 112, 3) := by decide +kernel
theorem dJx4a65c_add_7a177_52 : decode cJx4a65c_add_7a177 52 = .ok (.aload 4, 2) := by decide +kernel
theorem dJx4a65c_add_7a177_54 : decode cJx4a65c_add_7a177 54 = .ok (.iload_n 1, 1) := by decide +kernel
theorem dJx4a65c_add_7a177_55 : decode cJx4a65c_add_7a177 55 = .ok (.aload_n 2, 1) := by decide +kernel
theorem dJx4a65c_add_7a177_56 : decode cJx4a65c_add_7a177 56 = .ok (.aastore, 1) := by decide +kernel
theorem dJx4a65c_add_7a177_57 : decode cJx4a65c_add_7a177 57 = .ok (.aload_n 0, 1) := by decide +kernel
theorem dJx4a65c_add_7a177_58 : decode cJx4a65c_add_7a177 58 = .ok (.iload_n 3, 1) := by decide +kernel
theorem dJx4a65c_add_7a177_59 : decode cJx4a65c_add_7a177 59 = .ok (.iconst 1, 1) := by decide +kernel
theorem dJx4a65c_add_7a177_60 : decode cJx4a65c_add_7a177 60 = .ok (.iadd, 1) := by decide +kernel
theorem dJx4a65c_add_7a177_61 : decode cJx4a65c_add_7a177 61 = .ok (.putfield 48, 3) := by decide +kernel
theorem dJx4a65c_add_7a177_64 : decode cJx4a65c_add_7a177 64 = .ok (.return_, 1) := by decide +kernel
theorem dJx4a65c_remove_915e3_0 : decode cJx4a65c_remove_915e3 0 = .ok (.iload_n 1, 1) := by decide +kernel
theorem dJx4a65c_remove_915e3_1 : decode cJx4a65c_remove_915e3 1 = .ok (.aload_n 0, 1) := by decide +kernel
theorem dJx4a65c_remove_915e3_2 : decode cJx4a65c_remove_915e3 2 = .ok (.getfield 48, 3) := by decide +kernel
theorem dJx4a65c_remove_915e3_5 : decode cJx4a65c_remove_915e3 5 = .ok (.invokestatic 118, 3) := by decide +kernel
theorem dJx4a65c_remove_915e3_8 : decode cJx4a65c_remove_915e3 8 = .ok (.pop, 1) := by decide +kernel
theorem dJx4a65c_remove_915e3_9 : decode cJx4a65c_remove_915e3 9 = .ok (.aload_n 0, 1) := by decide +kernel
theorem dJx4a65c_remove_915e3_10 : decode cJx4a65c_remove_915e3 10 = .ok (.getfield 9, 3) := by decide +kernel
theorem dJx4a65c_remove_915e3_13 : decode cJx4a65c_remove_915e3 13 = .ok (.astore_n 2, 1) := by decide +kernel
theorem dJx4a65c_remove_915e3_14 : decode cJx4a65c_remove_915e3 14 = .ok (.aload_n 2, 1) := by decide +kernel
theorem dJx4a65c_remove_915e3_15 : decode cJx4a65c_remove_915e3 15 = .ok (.iload_n 1, 1) := by decide +kernel
theorem dJx4a65c_remove_915e3_16 : decode cJx4a65c_remove_915e3 16 = .ok (.aaload, 1) := by decide +kernel
theorem dJx4a65c_remove_915e3_17 : decode cJx4a65c_remove_915e3 17 = .ok (.astore_n 3, 1) := by decide +kernel
theorem dJx4a65c_remove_915e3_18 : decode cJx4a65c_remove_915e3 18 = .ok (.aload_n 0, 1) := by decide +kernel
theorem dJx4a65c_remove_915e3_19 : decode cJx4a65c_remove_915e3 19 = .ok (.aload_n 2, 1) := by decide +kernel
theorem dJx4a65c_remove_915e3_20 : decode cJx4a65c_remove_915e3 20 = .ok (.iload_n 1, 1) := by decide +kernel
theorem dJx4a65c_remove_915e3_21 : decode cJx4a65c_remove_915e3 21 = .ok (.invokevirtual 144, 3) := by decide +kernel
theorem dJx4a65c_remove_915e3_24 : decode cJx4a65c_remove_915e3 24 = .ok (.aload_n 3, 1) := by decide +kernel
theorem dJx4a65c_remove_915e3_25 : decode cJx4a65c_remove_915e3 25 = .ok (.areturn, 1) := by decide +kernel
theorem dJx4a65c_fastRemove_b59b0_0 : decode cJx4a65c_fastRemove_b59b0 0 = .ok (.aload_n 0, 1) := by decide +kernel
theorem dJx4a65c_fastRemove_b59b0_1 : decode cJx4a65c_fastRemove_b59b0 1 = .ok (.dup, 1) := by decide +kernel
theorem dJx4a65c_fastRemove_b59b0_2 : decode cJx4a65c_fastRemove_b59b0 2 = .ok (.getfield 63, 3) := by decide +kernel
theorem dJx4a65c_fastRemove_b59b0_5 : decode cJx4a65c_fastRemove_b59b0 5 = .ok (.iconst 1, 1) := by decide +kernel
theorem dJx4a65c_fastRemove_b59b0_6 : decode cJx4a65c_fastRemove_b59b0 6 = .ok (.iadd, 1) := by decide +kernel
theorem dJx4a65c_fastRemove_b59b0_7 : decode cJx4a65c_fastRemove_b59b0 7 = .ok (.putfield 63, 3) := by decide +kernel
theorem dJx4a65c_fastRemove_b59b0_10 : decode cJx4a65c_fastRemove_b59b0 10 = .ok (.aload_n 0, 1) := by decide +kernel
theorem dJx4a65c_fastRemove_b59b0_11 : decode cJx4a65c_fastRemove_b59b0 11 = .ok (.getfield 48, 3) := by decide +kernel
theorem dJx4a65c_fastRemove_b59b0_14 : decode cJx4a65c_fastRemove_b59b0 14 = .ok (.iconst 1, 1) := by decide +kernel
theorem dJx4a65c_fastRemove_b59b0_15 : decode cJx4a65c_fastRemove_b59b0 15 = .ok (.isub, 1) := by decide +kernel
theorem dJx4a65c_fastRemove_b59b0_16 : decode cJx4a65c_fastRemove_b59b0 16 = .ok (.dup, 1) := by decide +kernel
theorem dJx4a65c_fastRemove_b59b0_17 : decode cJx4a65c_fastRemove_b59b0 17 = .ok (.istore_n 3, 1) := by decide +kernel
theorem dJx4a65c_fastRemove_b59b0_18 : decode cJx4a65c_fastRemove_b59b0 18 = .ok (.iload_n 2, 1) := by decide +kernel
theorem dJx4a65c_fastRemove_b59b0_19 : decode cJx4a65c_fastRemove_b59b0 19 = .ok (.if_icmp .le 15, 3) := by decide +kernel
theorem dJx4a65c_fastRemove_b59b0_22 : decode cJx4a65c_fastRemove_b59b0 22 = .ok (.aload_n 1, 1) := by decide +kernel
theorem dJx4a65c_fastRemove_b59b0_23 : decode cJx4a65c_fastRemove_b59b0 23 = .ok (.iload_n 2, 1) := by decide +kernel
theorem dJx4a65c_fastRemove_b59b0_24 : decode cJx4a65c_fastRemove_b59b0 24 = .ok (.iconst 1, 1) := by decide +kernel
theorem dJx4a65c_fastRemove_b59b0_25 : decode cJx4a65c_fastRemove_b59b0 25 = .ok (.iadd, 1) := by decide +kernel
theorem dJx4a65c_fastRemove_b59b0_26 : decode cJx4a65c_fastRemove_b59b0 26 = .ok (.aload_n 1, 1) := by decide +kernel
theorem dJx4a65c_fastRemove_b59b0_27 : decode cJx4a65c_fastRemove_b59b0 27 = .ok (.iload_n 2, 1) := by decide +kernel
theorem dJx4a65c_fastRemove_b59b0_28 : decode cJx4a65c_fastRemove_b59b0 28 = .ok (.iload_n 3, 1) := by decide +kernel
theorem dJx4a65c_fastRemove_b59b0_29 : decode cJx4a65c_fastRemove_b59b0 29 = .ok (.iload_n 2, 1) := by decide +kernel
theorem dJx4a65c_fastRemove_b59b0_30 : decode cJx4a65c_fastRemove_b59b0 30 = .ok (.isub, 1) := by decide +kernel
theorem dJx4a65c_fastRemove_b59b0_31 : decode cJx4a65c_fastRemove_b59b0 31 = .ok (.invokestatic 112, 3) := by decide +kernel
theorem dJx4a65c_fastRemove_b59b0_34 : decode cJx4a65c_fastRemove_b59b0 34 = .ok (.aload_n 1, 1) := by decide +kernel
theorem dJx4a65c_fastRemove_b59b0_35 : decode cJx4a65c_fastRemove_b59b0 35 = .ok (.aload_n 0, 1) := by decide +kernel
theorem dJx4a65c_fastRemove_b59b0_36 : decode cJx4a65c_fastRemove_b59b0 36 = .ok (.iload_n 3, 1) := by decide +kernel
theorem dJx4a65c_fastRemove_b59b0_37 : decode cJx4a65c_fastRemove_b59b0 37 = .ok (.dup_x1, 1) := by decide +kernel
theorem dJx4a65c_fastRemove_b59b0_38 : decode cJx4a65c_fastRemove_b59b0 38 = .ok (.putfield 48, 3) := by decide +kernel
theorem dJx4a65c_fastRemove_b59b0_41 : decode cJx4a65c_fastRemove_b59b0 41 = .ok (.aconst_null, 1) := by decide +kernel
theorem dJx4a65c_fastRemove_b59b0_42 : decode cJx4a65c_fastRemove_b59b0 42 = .ok (.aastore, 1) := by decide +kernel
theorem dJx4a65c_fastRemove_b59b0_43 : decode cJx4a65c_fastRemove_b59b0 43 = .ok (.return_, 1) := by decide +kernel
theorem dJx4a65c_clear_da8c8_0 : decode cJx4a65c_clear_da8c8 0 = .ok (.aload_n 0, 1) := by decide +kernel
theorem dJx4a65c_clear_da8c8_1 : decode cJx4a65c_clear_da8c8 1 = .ok (.dup, 1) := by decide +kernel
theorem dJx4a65c_clear_da8c8_2 : decode cJx4a65c_clear_da8c8 2 = .ok (.getfield 63, 3) := by decide +kernel
theorem dJx4a65c_clear_da8c8_5 : decode cJx4a65c_clear_da8c8 5 = .ok (.iconst 1, 1) := by decide +kernel
theorem dJx4a65c_clear_da8c8_6 : decode cJx4a65c_clear_da8c8 6 = .ok (.iadd, 1) := by decide +kernel
theorem dJx4a65c_clear_da8c8_7 : decode cJx4a65c_clear_da8c8 7 = .ok (.putfield 63, 3) := by decide +kernel
theorem dJx4a65c_clear_da8c8_10 : decode cJx4a65c_clear_da8c8 10 = .ok (.aload_n 0, 1) := by decide +kernel
theorem dJx4a65c_clear_da8c8_11 : decode cJx4a65c_clear_da8c8 11 = .ok (.getfield 9, 3) := by decide +kernel
theorem dJx4a65c_clear_da8c8_14 : decode cJx4a65c_clear_da8c8 14 = .ok (.astore_n 1, 1) := by decide +kernel
theorem dJx4a65c_clear_da8c8_15 : decode cJx4a65c_clear_da8c8 15 = .ok (.aload_n 0, 1) := by decide +kernel
theorem dJx4a65c_clear_da8c8_16 : decode cJx4a65c_clear_da8c8 16 = .ok (.getfield 48, 3) := by decide +kernel
theorem dJx4a65c_clear_da8c8_19 : decode cJx4a65c_clear_da8c8 19 = .ok (.istore_n 2, 1) := by decide +kernel
theorem dJx4a65c_clear_da8c8_20 : decode cJx4a65c_clear_da8c8 20 = .ok (.aload_n 0, 1) := by decide +kernel
theorem dJx4a65c_clear_da8c8_21 : decode cJx4a65c_clear_da8c8 21 = .ok (.iconst 0, 1) := by decide +kernel
theorem dJx4a65c_clear_da8c8_22 : decode cJx4a65c_clear_da8c8 22 = .ok (.dup_x1, 1) := by decide +kernel
theorem dJx4a65c_clear_da8c8_23 : decode cJx4a65c_clear_da8c8 23 = .ok (.putfield 48, 3) := by decide +kernel
theorem dJx4a65c_clear_da8c8_26 : decode cJx4a65c_clear_da8c8 26 = .ok (.istore_n 3, 1) := by decide +kernel
theorem dJx4a65c_clear_da8c8_27 : decode cJx4a65c_clear_da8c8 27 = .ok (.iload_n 3, 1) := by decide +kernel
theorem dJx4a65c_clear_da8c8_28 : decode cJx4a65c_clear_da8c8 28 = .ok (.iload_n 2, 1) := by decide +kernel
theorem dJx4a65c_clear_da8c8_29 : decode cJx4a65c_clear_da8c8 29 = .ok (.if_icmp .ge 13, 3) := by decide +kernel
theorem dJx4a65c_clear_da8c8_32 : decode cJx4a65c_clear_da8c8 32 = .ok (.aload_n 1, 1) := by decide +kernel
theorem dJx4a65c_clear_da8c8_33 : decode cJx4a65c_clear_da8c8 33 = .ok (.iload_n 3, 1) := by decide +kernel
theorem dJx4a65c_clear_da8c8_34 : decode cJx4a65c_clear_da8c8 34 = .ok (.aconst_null, 1) := by decide +kernel
theorem dJx4a65c_clear_da8c8_35 : decode cJx4a65c_clear_da8c8 35 = .ok (.aastore, 1) := by decide +kernel
theorem dJx4a65c_clear_da8c8_36 : decode cJx4a65c_clear_da8c8 36 = .ok (.iinc 3 1, 3) := by decide +kernel
theorem dJx4a65c_clear_da8c8_39 : decode cJx4a65c_clear_da8c8 39 = .ok (.goto (-12), 3) := by decide +kernel
theorem dJx4a65c_clear_da8c8_42 : decode cJx4a65c_clear_da8c8 42 = .ok (.return_, 1) := by decide +kernel
theorem dJx4a65c_rangeCheckForAdd_d00df_0 : decode cJx4a65c_rangeCheckForAdd_d00df 0 = .ok (.iload_n 1, 1) := by decide +kernel
theorem dJx4a65c_rangeCheckForAdd_d00df_1 : decode cJx4a65c_rangeCheckForAdd_d00df 1 = .ok (.aload_n 0, 1) := by decide +kernel
theorem dJx4a65c_rangeCheckForAdd_d00df_2 : decode cJx4a65c_rangeCheckForAdd_d00df 2 = .ok (.getfield 48, 3) := by decide +kernel
theorem dJx4a65c_rangeCheckForAdd_d00df_5 : decode cJx4a65c_rangeCheckForAdd_d00df 5 = .ok (.if_icmp .gt 7, 3) := by decide +kernel
theorem dJx4a65c_rangeCheckForAdd_d00df_8 : decode cJx4a65c_rangeCheckForAdd_d00df 8 = .ok (.iload_n 1, 1) := by decide +kernel
theorem dJx4a65c_rangeCheckForAdd_d00df_9 : decode cJx4a65c_rangeCheckForAdd_d00df 9 = .ok (.ifCond .ge 16, 3) := by decide +kernel
theorem dJx4a65c_rangeCheckForAdd_d00df_12 : decode cJx4a65c_rangeCheckForAdd_d00df 12 = .ok (.new 187, 3) := by decide +kernel
theorem dJx4a65c_rangeCheckForAdd_d00df_15 : decode cJx4a65c_rangeCheckForAdd_d00df 15 = .ok (.dup, 1) := by decide +kernel
theorem dJx4a65c_rangeCheckForAdd_d00df_16 : decode cJx4a65c_rangeCheckForAdd_d00df 16 = .ok (.aload_n 0, 1) := by decide +kernel
theorem dJx4a65c_rangeCheckForAdd_d00df_17 : decode cJx4a65c_rangeCheckForAdd_d00df 17 = .ok (.iload_n 1, 1) := by decide +kernel
theorem dJx4a65c_rangeCheckForAdd_d00df_18 : decode cJx4a65c_rangeCheckForAdd_d00df 18 = .ok (.invokevirtual 198, 3) := by decide +kernel
theorem dJx4a65c_rangeCheckForAdd_d00df_21 : decode cJx4a65c_rangeCheckForAdd_d00df 21 = .ok (.invokespecial 193, 3) := by decide +kernel
theorem dJx4a65c_rangeCheckForAdd_d00df_24 : decode cJx4a65c_rangeCheckForAdd_d00df 24 = .ok (.athrow, 1) := by decide +kernel
theorem dJx4a65c_rangeCheckForAdd_d00df_25 : decode cJx4a65c_rangeCheckForAdd_d00df 25 = .ok (.return_, 1) := by decide +kernel
theorem dJx4a65c_outOfBoundsMsg_b52d3_0 : decode cJx4a65c_outOfBoundsMsg_b52d3 0 = .ok (.new 20, 3) := by decide +kernel
theorem dJx4a65c_outOfBoundsMsg_b52d3_3 : decode cJx4a65c_outOfBoundsMsg_b52d3 3 = .ok (.dup, 1) := by decide +kernel
theorem dJx4a65c_outOfBoundsMsg_b52d3_4 : decode cJx4a65c_outOfBoundsMsg_b52d3 4 = .ok (.invokespecial 22, 3) := by decide +kernel
theorem dJx4a65c_outOfBoundsMsg_b52d3_7 : decode cJx4a65c_outOfBoundsMsg_b52d3 7 = .ok (.ldc 201, 2) := by decide +kernel
theorem dJx4a65c_outOfBoundsMsg_b52d3_9 : decode cJx4a65c_outOfBoundsMsg_b52d3 9 = .ok (.invokevirtual 25, 3) := by decide +kernel
theorem dJx4a65c_outOfBoundsMsg_b52d3_12 : decode cJx4a65c_outOfBoundsMsg_b52d3 12 = .ok (.iload_n 1, 1) := by decide +kernel
theorem dJx4a65c_outOfBoundsMsg_b52d3_13 : decode cJx4a65c_outOfBoundsMsg_b52d3 13 = .ok (.invokevirtual 29, 3) := by decide +kernel
theorem dJx4a65c_outOfBoundsMsg_b52d3_16 : decode cJx4a65c_outOfBoundsMsg_b52d3 16 = .ok (.ldc 203, 2) := by decide +kernel
theorem dJx4a65c_outOfBoundsMsg_b52d3_18 : decode cJx4a65c_outOfBoundsMsg_b52d3 18 = .ok (.invokevirtual 25, 3) := by decide +kernel
theorem dJx4a65c_outOfBoundsMsg_b52d3_21 : decode cJx4a65c_outOfBoundsMsg_b52d3 21 = .ok (.aload_n 0, 1) := by decide +kernel
theorem dJx4a65c_outOfBoundsMsg_b52d3_22 : decode cJx4a65c_outOfBoundsMsg_b52d3 22 = .ok (.getfield 48, 3) := by decide +kernel
theorem dJx4a65c_outOfBoundsMsg_b52d3_25 : decode cJx4a65c_outOfBoundsMsg_b52d3 25 = .ok (.invokevirtual 29, 3) := by decide +kernel
theorem dJx4a65c_outOfBoundsMsg_b52d3_28 : decode cJx4a65c_outOfBoundsMsg_b52d3 28 = .ok (.invokevirtual 32, 3) := by decide +kernel
theorem dJx4a65c_outOfBoundsMsg_b52d3_31 : decode cJx4a65c_outOfBoundsMsg_b52d3 31 = .ok (.areturn, 1) := by decide +kernel
theorem dJ7_rangeCheck_23922_0 : decode cJ7_rangeCheck_23922 0 = .ok (.iload_n 1, 1) := by decide +kernel
theorem dJ7_rangeCheck_23922_1 : decode cJ7_rangeCheck_23922 1 = .ok (.iload_n 2, 1) := by decide +kernel
theorem dJ7_rangeCheck_23922_2 : decode cJ7_rangeCheck_23922 2 = .ok (.if_icmp .le 44, 3) := by decide +kernel
theorem dJ7_rangeCheck_23922_5 : decode cJ7_rangeCheck_23922 5 = .ok (.new 43, 3) := by decide +kernel
theorem dJ7_rangeCheck_23922_8 : decode cJ7_rangeCheck_23922 8 = .ok (.dup, 1) := by decide +kernel
theorem dJ7_rangeCheck_23922_9 : decode cJ7_rangeCheck_23922 9 = .ok (.new 45, 3) := by decide +kernel
theorem dJ7_rangeCheck_23922_12 : decode cJ7_rangeCheck_23922 12 = .ok (.dup, 1) := by decide +kernel
theorem dJ7_rangeCheck_23922_13 : decode cJ7_rangeCheck_23922 13 = .ok (.invokespecial 47, 3) := by decide +kernel
theorem dJ7_rangeCheck_23922_16 : decode cJ7_rangeCheck_23922 16 = .ok (.ldc 48, 2) := by decide +kernel
theorem dJ7_rangeCheck_23922_18 : decode cJ7_rangeCheck_23922 18 = .ok (.invokevirtual 50, 3) := by decide +kernel
theorem dJ7_rangeCheck_23922_21 : decode cJ7_rangeCheck_23922 21 = .ok (.iload_n 1, 1) := by decide +kernel
theorem dJ7_rangeCheck_23922_22 : decode cJ7_rangeCheck_23922 22 = .ok (.invokevirtual 54, 3) := by decide +kernel
theorem dJ7_rangeCheck_23922_25 : decode cJ7_rangeCheck_23922 25 = .ok (.ldc 57, 2) := by decide +kernel
theorem dJ7_rangeCheck_23922_27 : decode cJ7_rangeCheck_23922 27 = .ok (.invokevirtual 50, 3) := by decide +kernel
theorem dJ7_rangeCheck_23922_30 : decode cJ7_rangeCheck_23922 30 = .ok (.iload_n 2, 1) := by decide +kernel
theorem dJ7_rangeCheck_23922_31 : decode cJ7_rangeCheck_23922 31 = .ok (.invokevirtual 54, 3) := by decide +kernel
theorem dJ7_rangeCheck_23922_34 : decode cJ7_rangeCheck_23922 34 = .ok (.ldc 59, 2) := by decide +kernel
theorem dJ7_rangeCheck_23922_36 : decode cJ7_rangeCheck_23922 36 = .ok (.invokevirtual 50, 3) := by decide +kernel
theorem dJ7_rangeCheck_23922_39 : decode cJ7_rangeCheck_23922 39 = .ok (.invokevirtual 61, 3) := by decide +kernel
theorem dJ7_rangeCheck_23922_42 : decode cJ7_rangeCheck_23922 42 = .ok (.invokespecial 65, 3) := by decide +kernel
theorem dJ7_rangeCheck_23922_45 : decode cJ7_rangeCheck_23922 45 = .ok (.athrow, 1) := by decide +kernel
theorem dJ7_rangeCheck_23922_46 : decode cJ7_rangeCheck_23922 46 = .ok (.iload_n 1, 1) := by decide +kernel
theorem dJ7_rangeCheck_23922_47 : decode cJ7_rangeCheck_23922 47 = .ok (.ifCond .ge 12, 3) := by decide +kernel
theorem dJ7_rangeCheck_23922_50 : decode cJ7_rangeCheck_23922 50 = .ok (.new 68, 3) := by decide +kernel
theorem dJ7_rangeCheck_23922_53 : decode cJ7_rangeCheck_23922 53 = .ok (.dup, 1) := by decide +kernel
theorem dJ7_rangeCheck_23922_54 : decode cJ7_rangeCheck_23922 54 = .ok (.iload_n 1, 1) := by decide +kernel
theorem dJ7_rangeCheck_23922_55 : decode cJ7_rangeCheck_23922 55 = .ok (.invokespecial 70, 3) := by decide +kernel
theorem dJ7_rangeCheck_23922_58 : decode cJ7_rangeCheck_23922 58 = .ok (.athrow, 1) := by decide +kernel
theorem dJ7_rangeCheck_23922_59 : decode cJ7_rangeCheck_23922 59 = .ok (.iload_n 2, 1) := by decide +kernel
theorem dJ7_rangeCheck_23922_60 : decode cJ7_rangeCheck_23922 60 = .ok (.iload_n 0, 1) := by decide +kernel
theorem dJ7_rangeCheck_23922_61 : decode cJ7_rangeCheck_23922 61 = .ok (.if_icmp .le 12, 3) := by decide +kernel
theorem dJ7_rangeCheck_23922_64 : decode cJ7_rangeCheck_23922 64 = .ok (.new 68, 3) := by decide +kernel
theorem dJ7_rangeCheck_23922_67 : decode cJ7_rangeCheck_23922 67 = .ok (.dup, 1) := by decide +kernel
theorem dJ7_rangeCheck_23922_68 : decode cJ7_rangeCheck_23922 68 = .ok (.iload_n 2, 1) := by decide +kernel
theorem dJ7_rangeCheck_23922_69 : decode cJ7_rangeCheck_23922 69 = .ok (.invokespecial 70, 3) := by decide +kernel
theorem dJ7_rangeCheck_23922_72 : decode cJ7_rangeCheck_23922 72 = .ok (.athrow, 1) := by decide +kernel
theorem dJ7_rangeCheck_23922_73 : decode cJ7_rangeCheck_23922 73 = .ok (.return_, 1) := by decide +kernel
theorem dJ7_fill_eb02e_0 : decode cJ7_fill_eb02e 0 = .ok (.aload_n 0, 1) := by decide +kernel
theorem dJ7_fill_eb02e_1 : decode cJ7_fill_eb02e 1 = .ok (.arraylength, 1) := by decide +kernel
theorem dJ7_fill_eb02e_2 : decode cJ7_fill_eb02e 2 = .ok (.iload_n 1, 1) := by decide +kernel
theorem dJ7_fill_eb02e_3 : decode cJ7_fill_eb02e 3 = .ok (.iload_n 2, 1) := by decide +kernel
theorem dJ7_fill_eb02e_4 : decode cJ7_fill_eb02e 4 = .ok (.invokestatic 13, 3) := by decide +kernel
theorem dJ7_fill_eb02e_7 : decode cJ7_fill_eb02e 7 = .ok (.iload_n 1, 1) := by decide +kernel
theorem dJ7_fill_eb02e_8 : decode cJ7_fill_eb02e 8 = .ok (.istore 4, 2) := by decide +kernel
theorem dJ7_fill_eb02e_10 : decode cJ7_fill_eb02e 10 = .ok (.iload 4, 2) := by decide +kernel
theorem dJ7_fill_eb02e_12 : decode cJ7_fill_eb02e 12 = .ok (.iload_n 2, 1) := by decide +kernel
theorem dJ7_fill_eb02e_13 : decode cJ7_fill_eb02e 13 = .ok (.if_icmp .ge 14, 3) := by decide +kernel
theorem dJ7_fill_eb02e_16 : decode cJ7_fill_eb02e 16 = .ok (.aload_n 0, 1) := by decide +kernel
theorem dJ7_fill_eb02e_17 : decode cJ7_fill_eb02e 17 = .ok (.iload 4, 2) := by decide +kernel
theorem dJ7_fill_eb02e_19 : decode cJ7_fill_eb02e 19 = .ok (.iload_n 3, 1) := by decide +kernel
theorem dJ7_fill_eb02e_20 : decode cJ7_fill_eb02e 20 = .ok (.bastore, 1) := by decide +kernel
theorem dJ7_fill_eb02e_21 : decode cJ7_fill_eb02e 21 = .ok (.iinc 4 1, 3) := by decide +kernel
theorem dJ7_fill_eb02e_24 : decode cJ7_fill_eb02e 24 = .ok (.goto (-14), 3) := by decide +kernel
theorem dJ7_fill_eb02e_27 : decode cJ7_fill_eb02e 27 = .ok (.return_, 1) := by decide +kernel
theorem dJ7_copyOf_1904c_0 : decode cJ7_copyOf_1904c 0 = .ok (.aload_n 0, 1) := by decide +kernel
theorem dJ7_copyOf_1904c_1 : decode cJ7_copyOf_1904c 1 = .ok (.iload_n 1, 1) := by decide +kernel
theorem dJ7_copyOf_1904c_2 : decode cJ7_copyOf_1904c 2 = .ok (.aload_n 0, 1) := by decide +kernel
theorem dJ7_copyOf_1904c_3 : decode cJ7_copyOf_1904c 3 = .ok (.invokevirtual 86, 3) := by decide +kernel
theorem dJ7_copyOf_1904c_6 : decode cJ7_copyOf_1904c 6 = .ok (.invokestatic 300, 3) := by decide +kernel
theorem dJ7_copyOf_1904c_9 : decode cJ7_copyOf_1904c 9 = .ok (.areturn, 1) := by decide +kernel
theorem dJ7_copyOf_6403c_0 : decode cJ7_copyOf_6403c 0 = .ok (.aload_n 2, 1) := by decide +kernel
theorem dJ7_copyOf_6403c_1 : decode cJ7_copyOf_6403c 1 = .ok (.ldc 110, 2) := by decide +kernel
theorem dJ7_copyOf_6403c_3 : decode cJ7_copyOf_6403c 3 = .ok (.if_acmp .ne 10, 3) := by decide +kernel
theorem dJ7_copyOf_6403c_6 : decode cJ7_copyOf_6403c 6 = .ok (.iload_n 1, 1) := by decide +kernel
theorem dJ7_copyOf_6403c_7 : decode cJ7_copyOf_6403c 7 = .ok (.anewarray 2, 3) := by decide +kernel
theorem dJ7_copyOf_6403c_10 : decode cJ7_copyOf_6403c 10 = .ok (.goto 14, 3) := by decide +kernel
theorem dJ7_copyOf_6403c_13 : decode cJ7_copyOf_6403c 13 = .ok (.aload_n 2, 1) := by decide +kernel
theorem dJ7_copyOf_6403c_14 : decode cJ7_copyOf_6403c 14 = .ok (.invokevirtual 90, 3) := by decide +kernel
theorem dJ7_copyOf_6403c_17 : decode cJ7_copyOf_6403c 17 = .ok (.iload_n 1, 1) := by decide +kernel
theorem dJ7_copyOf_6403c_18 : decode cJ7_copyOf_6403c 18 = .ok (.invokestatic 95, 3) := by decide +kernel
theorem dJ7_copyOf_6403c_21 : decode cJ7_copyOf_6403c 21 = .ok (.checkcast 110, 3) := by decide +kernel
theorem dJ7_copyOf_6403c_24 : decode cJ7_copyOf_6403c 24 = .ok (.astore_n 3, 1) := by decide +kernel
theorem dJ7_copyOf_6403c_25 : decode cJ7_copyOf_6403c 25 = .ok (.aload_n 0, 1) := by decide +kernel
theorem dJ7_copyOf_6403c_26 : decode cJ7_copyOf_6403c 26 = .ok (.iconst 0, 1) := by decide +kernel
theorem dJ7_copyOf_6403c_27 : decode cJ7_copyOf_6403c 27 = .ok (.aload_n 3, 1) := by decide +kernel
theorem dJ7_copyOf_6403c_28 : decode cJ7_copyOf_6403c 28 = .ok (.iconst 0, 1) := by decide +kernel
theorem dJ7_copyOf_6403c_29 : decode cJ7_copyOf_6403c 29 = .ok (.aload_n 0, 1) := by decide +kernel
theorem dJ7_copyOf_6403c_30 : decode cJ7_copyOf_6403c 30 = .ok (.arraylength, 1) := by decide +kernel
theorem dJ7_copyOf_6403c_31 : decode cJ7_copyOf_6403c 31 = .ok (.iload_n 1, 1) := by decide +kernel
theorem dJ7_copyOf_6403c_32 : decode cJ7_copyOf_6403c 32 = .ok (.invokestatic 304, 3) := by decide +kernel
theorem dJ7_copyOf_6403c_35 : decode cJ7_copyOf_6403c 35 = .ok (.invokestatic 150, 3) := by decide +kernel
theorem dJ7_copyOf_6403c_38 : decode cJ7_copyOf_6403c 38 = .ok (.aload_n 3, 1) := by decide +kernel
theorem dJ7_copyOf_6403c_39 : decode cJ7_copyOf_6403c 39 = .ok (.areturn, 1) := by decide +kernel
theorem dJ7_copyOf_9075b_0 : decode cJ7_copyOf_9075b 0 = .ok (.iload_n 1, 1) := by decide +kernel
theorem dJ7_copyOf_9075b_1 : decode cJ7_copyOf_9075b 1 = .ok (.aload_n 0, 1) := by decide +kernel
theorem dJ7_copyOf_9075b_2 : decode cJ7_copyOf_9075b 2 = .ok (.arraylength, 1) := by decide +kernel
theorem dJ7_copyOf_9075b_3 : decode cJ7_copyOf_9075b 3 = .ok (.if_icmp .ne 11, 3) := by decide +kernel
theorem dJ7_copyOf_9075b_6 : decode cJ7_copyOf_9075b 6 = .ok (.aload_n 0, 1) := by decide +kernel
theorem dJ7_copyOf_9075b_7 : decode cJ7_copyOf_9075b 7 = .ok (.invokevirtual 310, 3) := by decide +kernel
theorem dJ7_copyOf_9075b_10 : decode cJ7_copyOf_9075b 10 = .ok (.checkcast 311, 3) := by decide +kernel
theorem dJ7_copyOf_9075b_13 : decode cJ7_copyOf_9075b 13 = .ok (.areturn, 1) := by decide +kernel
theorem dJ7_copyOf_9075b_14 : decode cJ7_copyOf_9075b 14 = .ok (.iload_n 1, 1) := by decide +kernel
theorem dJ7_copyOf_9075b_15 : decode cJ7_copyOf_9075b 15 = .ok (.newarray .byte, 2) := by decide +kernel
theorem dJ7_copyOf_9075b_17 : decode cJ7_copyOf_9075b 17 = .ok (.astore_n 2, 1) := by decide +kernel
theorem dJ7_copyOf_9075b_18 : decode cJ7_copyOf_9075b 18 = .ok (.aload_n 0, 1) := by decide +kernel
theorem dJ7_copyOf_9075b_19 : decode cJ7_copyOf_9075b 19 = .ok (.iconst 0, 1) := by decide +kernel
theorem dJ7_copyOf_9075b_20 : decode cJ7_copyOf_9075b 20 = .ok (.aload_n 2, 1) := by decide +kernel
theorem dJ7_copyOf_9075b_21 : decode cJ7_copyOf_9075b 21 = .ok (.iconst 0, 1) := by decide +kernel
theorem dJ7_copyOf_9075b_22 : decode cJ7_copyOf_9075b 22 = .ok (.aload_n 0, 1) := by decide +kernel
theorem dJ7_copyOf_9075b_23 : decode cJ7_copyOf_9075b 23 = .ok (.arraylength, 1) := by decide +kernel
theorem dJ7_copyOf_9075b_24 : decode cJ7_copyOf_9075b 24 = .ok (.iload_n 1, 1) := by decide +kernel
theorem dJ7_copyOf_9075b_25 : decode cJ7_copyOf_9075b 25 = .ok (.invokestatic 304, 3) := by decide +kernel
theorem dJ7_copyOf_9075b_28 : decode cJ7_copyOf_9075b 28 = .ok (.invokestatic 150, 3) := by decide +kernel
theorem dJ7_copyOf_9075b_31 : decode cJ7_copyOf_9075b 31 = .ok (.aload_n 2, 1) := by decide +kernel
theorem dJ7_copyOf_9075b_32 : decode cJ7_copyOf_9075b 32 = .ok (.areturn, 1) := by decide +kernel
theorem dJ7_checkLength_df160_0 : decode cJ7_checkLength_df160 0 = .ok (.iload_n 1, 1) := by decide +kernel
theorem dJ7_checkLength_df160_1 : decode cJ7_checkLength_df160 1 = .ok (.iload_n 0, 1) := by decide +kernel
theorem dJ7_checkLength_df160_2 : decode cJ7_checkLength_df160 2 = .ok (.if_icmp .ge 35, 3) := by decide +kernel
theorem dJ7_checkLength_df160_5 : decode cJ7_checkLength_df160 5 = .ok (.new 43, 3) := by decide +kernel
theorem dJ7_checkLength_df160_8 : decode cJ7_checkLength_df160 8 = .ok (.dup, 1) := by decide +kernel
theorem dJ7_checkLength_df160_9 : decode cJ7_checkLength_df160 9 = .ok (.new 45, 3) := by decide +kernel
theorem dJ7_checkLength_df160_12 : decode cJ7_checkLength_df160 12 = .ok (.dup, 1) := by decide +kernel
theorem dJ7_checkLength_df160_13 : decode cJ7_checkLength_df160 13 = .ok (.invokespecial 47, 3) := by decide +kernel
theorem dJ7_checkLength_df160_16 : decode cJ7_checkLength_df160 16 = .ok (.iload_n 0, 1) := by decide +kernel
theorem dJ7_checkLength_df160_17 : decode cJ7_checkLength_df160 17 = .ok (.invokevirtual 54, 3) := by decide +kernel
theorem dJ7_checkLength_df160_20 : decode cJ7_checkLength_df160 20 = .ok (.ldc_w 337, 3) := by decide +kernel
theorem dJ7_checkLength_df160_23 : decode cJ7_checkLength_df160 23 = .ok (.invokevirtual 50, 3) := by decide +kernel
theorem dJ7_checkLength_df160_26 : decode cJ7_checkLength_df160 26 = .ok (.iload_n 1, 1) := by decide +kernel
theorem dJ7_checkLength_df160_27 : decode cJ7_checkLength_df160 27 = .ok (.invokevirtual 54, 3) := by decide +kernel
theorem dJ7_checkLength_df160_30 : decode cJ7_checkLength_df160 30 = .ok (.invokevirtual 61, 3) := by decide +kernel
theorem dJ7_checkLength_df160_33 : decode cJ7_checkLength_df160 33 = .ok (.invokespecial 65, 3) := by decide +kernel
theorem dJ7_checkLength_df160_36 : decode cJ7_checkLength_df160 36 = .ok (.athrow, 1) := by decide +kernel
theorem dJ7_checkLength_df160_37 : decode cJ7_checkLength_df160 37 = .ok (.return_, 1) := by decide +kernel
theorem dJ7_copyOfRange_39247_0 : decode cJ7_copyOfRange_39247 0 = .ok (.iload_n 1, 1) := by decide +kernel
theorem dJ7_copyOfRange_39247_1 : decode cJ7_copyOfRange_39247 1 = .ok (.ifCond .ne 9, 3) := by decide +kernel
theorem dJ7_copyOfRange_39247_4 : decode cJ7_copyOfRange_39247 4 = .ok (.iload_n 2, 1) := by decide +kernel
theorem dJ7_copyOfRange_39247_5 : decode cJ7_copyOfRange_39247 5 = .ok (.aload_n 0, 1) := by decide +kernel
theorem dJ7_copyOfRange_39247_6 : decode cJ7_copyOfRange_39247 6 = .ok (.arraylength, 1) := by decide +kernel
theorem dJ7_copyOfRange_39247_7 : decode cJ7_copyOfRange_39247 7 = .ok (.if_icmp .eq 10, 3) := by decide +kernel
theorem dJ7_copyOfRange_39247_10 : decode cJ7_copyOfRange_39247 10 = .ok (.aload_n 0, 1) := by decide +kernel
theorem dJ7_copyOfRange_39247_11 : decode cJ7_copyOfRange_39247 11 = .ok (.iload_n 1, 1) := by decide +kernel
theorem dJ7_copyOfRange_39247_12 : decode cJ7_copyOfRange_39247 12 = .ok (.iload_n 2, 1) := by decide +kernel
theorem dJ7_copyOfRange_39247_13 : decode cJ7_copyOfRange_39247 13 = .ok (.invokestatic 339, 3) := by decide +kernel
theorem dJ7_copyOfRange_39247_16 : decode cJ7_copyOfRange_39247 16 = .ok (.areturn, 1) := by decide +kernel
theorem dJ7_copyOfRange_39247_17 : decode cJ7_copyOfRange_39247 17 = .ok (.aload_n 0, 1) := by decide +kernel
theorem dJ7_copyOfRange_39247_18 : decode cJ7_copyOfRange_39247 18 = .ok (.invokevirtual 310, 3) := by decide +kernel
theorem dJ7_copyOfRange_39247_21 : decode cJ7_copyOfRange_39247 21 = .ok (.checkcast 311, 3) := by decide +kernel
theorem dJ7_copyOfRange_39247_24 : decode cJ7_copyOfRange_39247 24 = .ok (.areturn, 1) := by decide +kernel
theorem dJ7_copyOfRangeByte_39247_0 : decode cJ7_copyOfRangeByte_39247 0 = .ok (.iload_n 1, 1) := by decide +kernel
theorem dJ7_copyOfRangeByte_39247_1 : decode cJ7_copyOfRangeByte_39247 1 = .ok (.iload_n 2, 1) := by decide +kernel
theorem dJ7_copyOfRangeByte_39247_2 : decode cJ7_copyOfRangeByte_39247 2 = .ok (.invokestatic 343, 3) := by decide +kernel
theorem dJ7_copyOfRangeByte_39247_5 : decode cJ7_copyOfRangeByte_39247 5 = .ok (.iload_n 2, 1) := by decide +kernel
theorem dJ7_copyOfRangeByte_39247_6 : decode cJ7_copyOfRangeByte_39247 6 = .ok (.iload_n 1, 1) := by decide +kernel
theorem dJ7_copyOfRangeByte_39247_7 : decode cJ7_copyOfRangeByte_39247 7 = .ok (.isub, 1) := by decide +kernel
theorem dJ7_copyOfRangeByte_39247_8 : decode cJ7_copyOfRangeByte_39247 8 = .ok (.istore_n 3, 1) := by decide +kernel
theorem dJ7_copyOfRangeByte_39247_9 : decode cJ7_copyOfRangeByte_39247 9 = .ok (.iload_n 3, 1) := by decide +kernel
theorem dJ7_copyOfRangeByte_39247_10 : decode cJ7_copyOfRangeByte_39247 10 = .ok (.newarray .byte, 2) := by decide +kernel
theorem dJ7_copyOfRangeByte_39247_12 : decode cJ7_copyOfRangeByte_39247 12 = .ok (.astore 4, 2) := by decide +kernel
theorem dJ7_copyOfRangeByte_39247_14 : decode cJ7_copyOfRangeByte_39247 14 = .ok (.aload_n 0, 1) := by decide +kernel
theorem dJ7_copyOfRangeByte_39247_15 : decode cJ7_copyOfRangeByte_39247 15 = .ok (.iload_n 1, 1) := by decide +kernel
theorem dJ7_copyOfRangeByte_39247_16 : decode cJ7_copyOfRangeByte_39247 16 = .ok (.aload 4, 2) := by decide +kernel
theorem dJ7_copyOfRangeByte_39247_18 : decode cJ7_copyOfRangeByte_39247 18 = .ok (.iconst 0, 1) := by decide +kernel
theorem dJ7_copyOfRangeByte_39247_19 : decode cJ7_copyOfRangeByte_39247 19 = .ok (.aload_n 0, 1) := by decide +kernel
theorem dJ7_copyOfRangeByte_39247_20 : decode cJ7_copyOfRangeByte_39247 20 = .ok (.arraylength, 1) := by decide +kernel
theorem dJ7_copyOfRangeByte_39247_21 : decode cJ7_copyOfRangeByte_39247 21 = .ok (.iload_n 1, 1) := by decide +kernel
theorem dJ7_copyOfRangeByte_39247_22 : decode cJ7_copyOfRangeByte_39247 22 = .ok (.isub, 1) := by decide +kernel
theorem dJ7_copyOfRangeByte_39247_23 : decode cJ7_copyOfRangeByte_39247 23 = .ok (.iload_n 3, 1) := by decide +kernel
theorem dJ7_copyOfRangeByte_39247_24 : decode cJ7_copyOfRangeByte_39247 24 = .ok (.invokestatic 304, 3) := by decide +kernel
theorem dJ7_copyOfRangeByte_39247_27 : decode cJ7_copyOfRangeByte_39247 27 = .ok (.invokestatic 150, 3) := by decide +kernel
theorem dJ7_copyOfRangeByte_39247_30 : decode cJ7_copyOfRangeByte_39247 30 = .ok (.aload 4, 2) := by decide +kernel
theorem dJ7_copyOfRangeByte_39247_32 : decode cJ7_copyOfRangeByte_39247 32 = .ok (.areturn, 1) := by decide +kernel
theorem dJ15_checkIndex_7cf53_0 : decode cJ15_checkIndex_7cf53 0 = .ok (.iload_n 0, 1) := by decide +kernel
theorem dJ15_checkIndex_7cf53_1 : decode cJ15_checkIndex_7cf53 1 = .ok (.iload_n 1, 1) := by decide +kernel
theorem dJ15_checkIndex_7cf53_2 : decode cJ15_checkIndex_7cf53 2 = .ok (.aconst_null, 1) := by decide +kernel
theorem dJ15_checkIndex_7cf53_3 : decode cJ15_checkIndex_7cf53 3 = .ok (.invokestatic 105, 3) := by decide +kernel
theorem dJ15_checkIndex_7cf53_6 : decode cJ15_checkIndex_7cf53 6 = .ok (.ireturn, 1) := by decide +kernel
theorem dJ8_newLength_cabcc_0 : decode cJ8_newLength_cabcc 0 = .ok (.iload_n 0, 1) := by decide +kernel
theorem dJ8_newLength_cabcc_1 : decode cJ8_newLength_cabcc 1 = .ok (.iload_n 1, 1) := by decide +kernel
theorem dJ8_newLength_cabcc_2 : decode cJ8_newLength_cabcc 2 = .ok (.iload_n 2, 1) := by decide +kernel
theorem dJ8_newLength_cabcc_3 : decode cJ8_newLength_cabcc 3 = .ok (.invokestatic 194, 3) := by decide +kernel
theorem dJ8_newLength_cabcc_6 : decode cJ8_newLength_cabcc 6 = .ok (.iadd, 1) := by decide +kernel
theorem dJ8_newLength_cabcc_7 : decode cJ8_newLength_cabcc 7 = .ok (.istore_n 3, 1) := by decide +kernel
theorem dJ8_newLength_cabcc_8 : decode cJ8_newLength_cabcc 8 = .ok (.iconst 0, 1) := by decide +kernel
theorem dJ8_newLength_cabcc_9 : decode cJ8_newLength_cabcc 9 = .ok (.iload_n 3, 1) := by decide +kernel
theorem dJ8_newLength_cabcc_10 : decode cJ8_newLength_cabcc 10 = .ok (.if_icmp .ge 11, 3) := by decide +kernel
theorem dJ8_newLength_cabcc_13 : decode cJ8_newLength_cabcc 13 = .ok (.iload_n 3, 1) := by decide +kernel
theorem dJ8_newLength_cabcc_14 : decode cJ8_newLength_cabcc 14 = .ok (.ldc 200, 2) := by decide +kernel
theorem dJ8_newLength_cabcc_16 : decode cJ8_newLength_cabcc 16 = .ok (.if_icmp .gt 5, 3) := by decide +kernel
theorem dJ8_newLength_cabcc_19 : decode cJ8_newLength_cabcc 19 = .ok (.iload_n 3, 1) := by decide +kernel
theorem dJ8_newLength_cabcc_20 : decode cJ8_newLength_cabcc 20 = .ok (.ireturn, 1) := by decide +kernel
theorem dJ8_newLength_cabcc_21 : decode cJ8_newLength_cabcc 21 = .ok (.iload_n 0, 1) := by decide +kernel
theorem dJ8_newLength_cabcc_22 : decode cJ8_newLength_cabcc 22 = .ok (.iload_n 1, 1) := by decide +kernel
theorem dJ8_newLength_cabcc_23 : decode cJ8_newLength_cabcc 23 = .ok (.invokestatic 201, 3) := by decide +kernel
theorem dJ8_newLength_cabcc_26 : decode cJ8_newLength_cabcc 26 = .ok (.ireturn, 1) := by decide +kernel
theorem dJ8_hugeLength_7cf53_0 : decode cJ8_hugeLength_7cf53 0 = .ok (.iload_n 0, 1) := by decide +kernel
theorem dJ8_hugeLength_7cf53_1 : decode cJ8_hugeLength_7cf53 1 = .ok (.iload_n 1, 1) := by decide +kernel
theorem dJ8_hugeLength_7cf53_2 : decode cJ8_hugeLength_7cf53 2 = .ok (.iadd, 1) := by decide +kernel
theorem dJ8_hugeLength_7cf53_3 : decode cJ8_hugeLength_7cf53 3 = .ok (.istore_n 2, 1) := by decide +kernel
theorem dJ8_hugeLength_7cf53_4 : decode cJ8_hugeLength_7cf53 4 = .ok (.iload_n 2, 1) := by decide +kernel
theorem dJ8_hugeLength_7cf53_5 : decode cJ8_hugeLength_7cf53 5 = .ok (.ifCond .ge 44, 3) := by decide +kernel
theorem dJ8_hugeLength_7cf53_8 : decode cJ8_hugeLength_7cf53 8 = .ok (.new 204, 3) := by decide +kernel
theorem dJ8_hugeLength_7cf53_11 : decode cJ8_hugeLength_7cf53 11 = .ok (.dup, 1) := by decide +kernel
theorem dJ8_hugeLength_7cf53_12 : decode cJ8_hugeLength_7cf53 12 = .ok (.new 89, 3) := by decide +kernel
theorem dJ8_hugeLength_7cf53_15 : decode cJ8_hugeLength_7cf53 15 = .ok (.dup, 1) := by decide +kernel
theorem dJ8_hugeLength_7cf53_16 : decode cJ8_hugeLength_7cf53 16 = .ok (.invokespecial 91, 3) := by decide +kernel
theorem dJ8_hugeLength_7cf53_19 : decode cJ8_hugeLength_7cf53 19 = .ok (.ldc 206, 2) := by decide +kernel
theorem dJ8_hugeLength_7cf53_21 : decode cJ8_hugeLength_7cf53 21 = .ok (.invokevirtual 94, 3) := by decide +kernel
theorem dJ8_hugeLength_7cf53_24 : decode cJ8_hugeLength_7cf53 24 = .ok (.iload_n 0, 1) := by decide +kernel
theorem dJ8_hugeLength_7cf53_25 : decode cJ8_hugeLength_7cf53 25 = .ok (.invokevirtual 98, 3) := by decide +kernel
theorem dJ8_hugeLength_7cf53_28 : decode cJ8_hugeLength_7cf53 28 = .ok (.ldc 208, 2) := by decide +kernel
theorem dJ8_hugeLength_7cf53_30 : decode cJ8_hugeLength_7cf53 30 = .ok (.invokevirtual 94, 3) := by decide +kernel
theorem dJ8_hugeLength_7cf53_33 : decode cJ8_hugeLength_7cf53 33 = .ok (.iload_n 1, 1) := by decide +kernel
theorem dJ8_hugeLength_7cf53_34 : decode cJ8_hugeLength_7cf53 34 = .ok (.invokevirtual 98, 3) := by decide +kernel
theorem dJ8_hugeLength_7cf53_37 : decode cJ8_hugeLength_7cf53 37 = .ok (.ldc 210, 2) := by decide +kernel
theorem dJ8_hugeLength_7cf53_39 : decode cJ8_hugeLength_7cf53 39 = .ok (.invokevirtual 94, 3) := by decide +kernel
theorem dJ8_hugeLength_7cf53_42 : decode cJ8_hugeLength_7cf53 42 = .ok (.invokevirtual 101, 3) := by decide +kernel
theorem dJ8_hugeLength_7cf53_45 : decode cJ8_hugeLength_7cf53 45 = .ok (.invokespecial 212, 3) := by decide +kernel
theorem dJ8_hugeLength_7cf53_48 : decode cJ8_hugeLength_7cf53 48 = .ok (.athrow, 1) := by decide +kernel
theorem dJ8_hugeLength_7cf53_49 : decode cJ8_hugeLength_7cf53 49 = .ok (.iload_n 2, 1) := by decide +kernel
theorem dJ8_hugeLength_7cf53_50 : decode cJ8_hugeLength_7cf53 50 = .ok (.ldc 200, 2) := by decide +kernel
theorem dJ8_hugeLength_7cf53_52 : decode cJ8_hugeLength_7cf53 52 = .ok (.if_icmp .gt 6, 3) := by decide +kernel
theorem dJ8_hugeLength_7cf53_55 : decode cJ8_hugeLength_7cf53 55 = .ok (.ldc 200, 2) := by decide +kernel
theorem dJ8_hugeLength_7cf53_57 : decode cJ8_hugeLength_7cf53 57 = .ok (.ireturn, 1) := by decide +kernel
theorem dJ8_hugeLength_7cf53_58 : decode cJ8_hugeLength_7cf53 58 = .ok (.iload_n 2, 1) := by decide +kernel
theorem dJ8_hugeLength_7cf53_59 : decode cJ8_hugeLength_7cf53 59 = .ok (.ireturn, 1) := by decide +kernel
theorem dJ3_checkIndex_8e157_0 : decode cJ3_checkIndex_8e157 0 = .ok (.iload_n 0, 1) := by decide +kernel
theorem dJ3_checkIndex_8e157_1 : decode cJ3_checkIndex_8e157 1 = .ok (.ifCond .lt 8, 3) := by decide +kernel
theorem dJ3_checkIndex_8e157_4 : decode cJ3_checkIndex_8e157 4 = .ok (.iload_n 0, 1) := by decide +kernel
theorem dJ3_checkIndex_8e157_5 : decode cJ3_checkIndex_8e157 5 = .ok (.iload_n 1, 1) := by decide +kernel
theorem dJ3_checkIndex_8e157_6 : decode cJ3_checkIndex_8e157 6 = .ok (.if_icmp .lt 10, 3) := by decide +kernel
theorem dJ3_checkIndex_8e157_9 : decode cJ3_checkIndex_8e157 9 = .ok (.aload_n 2, 1) := by decide +kernel
theorem dJ3_checkIndex_8e157_10 : decode cJ3_checkIndex_8e157 10 = .ok (.iload_n 0, 1) := by decide +kernel
theorem dJ3_checkIndex_8e157_11 : decode cJ3_checkIndex_8e157 11 = .ok (.iload_n 1, 1) := by decide +kernel
theorem dJ3_checkIndex_8e157_12 : decode cJ3_checkIndex_8e157 12 = .ok (.invokestatic 95, 3) := by decide +kernel
theorem dJ3_checkIndex_8e157_15 : decode cJ3_checkIndex_8e157 15 = .ok (.athrow, 1) := by decide +kernel
theorem dJ3_checkIndex_8e157_16 : decode cJ3_checkIndex_8e157 16 = .ok (.iload_n 0, 1) := by decide +kernel
theorem dJ3_checkIndex_8e157_17 : decode cJ3_checkIndex_8e157 17 = .ok (.ireturn, 1) := by decide +kernel
theorem dJ3_checkFromToIndex_8c36e_0 : decode cJ3_checkFromToIndex_8c36e 0 = .ok (.iload_n 0, 1) := by decide +kernel
theorem dJ3_checkFromToIndex_8c36e_1 : decode cJ3_checkFromToIndex_8c36e 1 = .ok (.ifCond .lt 13, 3) := by decide +kernel
theorem dJ3_checkFromToIndex_8c36e_4 : decode cJ3_checkFromToIndex_8c36e 4 = .ok (.iload_n 0, 1) := by decide +kernel
theorem dJ3_checkFromToIndex_8c36e_5 : decode cJ3_checkFromToIndex_8c36e 5 = .ok (.iload_n 1, 1) := by decide +kernel
theorem dJ3_checkFromToIndex_8c36e_6 : decode cJ3_checkFromToIndex_8c36e 6 = .ok (.if_icmp .gt 8, 3) := by decide +kernel
theorem dJ3_checkFromToIndex_8c36e_9 : decode cJ3_checkFromToIndex_8c36e 9 = .ok (.iload_n 1, 1) := by decide +kernel
theorem dJ3_checkFromToIndex_8c36e_10 : decode cJ3_checkFromToIndex_8c36e 10 = .ok (.iload_n 2, 1) := by decide +kernel
theorem dJ3_checkFromToIndex_8c36e_11 : decode cJ3_checkFromToIndex_8c36e 11 = .ok (.if_icmp .le 11, 3) := by decide +kernel
theorem dJ3_checkFromToIndex_8c36e_14 : decode cJ3_checkFromToIndex_8c36e 14 = .ok (.aload_n 3, 1) := by decide +kernel
theorem dJ3_checkFromToIndex_8c36e_15 : decode cJ3_checkFromToIndex_8c36e 15 = .ok (.iload_n 0, 1) := by decide +kernel
theorem dJ3_checkFromToIndex_8c36e_16 : decode cJ3_checkFromToIndex_8c36e 16 = .ok (.iload_n 1, 1) := by decide +kernel
theorem dJ3_checkFromToIndex_8c36e_17 : decode cJ3_checkFromToIndex_8c36e 17 = .ok (.iload_n 2, 1) := by decide +kernel
theorem dJ3_checkFromToIndex_8c36e_18 : decode cJ3_checkFromToIndex_8c36e 18 = .ok (.invokestatic 99, 3) := by decide +kernel
theorem dJ3_checkFromToIndex_8c36e_21 : decode cJ3_checkFromToIndex_8c36e 21 = .ok (.athrow, 1) := by decide +kernel
theorem dJ3_checkFromToIndex_8c36e_22 : decode cJ3_checkFromToIndex_8c36e 22 = .ok (.iload_n 0, 1) := by decide +kernel
theorem dJ3_checkFromToIndex_8c36e_23 : decode cJ3_checkFromToIndex_8c36e 23 = .ok (.ireturn, 1) := by decide +kernel
theorem dJ3_checkFromIndexSize_8c36e_0 : decode cJ3_checkFromIndexSize_8c36e 0 = .ok (.iload_n 2, 1) := by decide +kernel
theorem dJ3_checkFromIndexSize_8c36e_1 : decode cJ3_checkFromIndexSize_8c36e 1 = .ok (.iload_n 0, 1) := by decide +kernel
theorem dJ3_checkFromIndexSize_8c36e_2 : decode cJ3_checkFromIndexSize_8c36e 2 = .ok (.ior, 1) := by decide +kernel
theorem dJ3_checkFromIndexSize_8c36e_3 : decode cJ3_checkFromIndexSize_8c36e 3 = .ok (.iload_n 1, 1) := by decide +kernel
theorem dJ3_checkFromIndexSize_8c36e_4 : decode cJ3_checkFromIndexSize_8c36e 4 = .ok (.ior, 1) := by decide +kernel
theorem dJ3_checkFromIndexSize_8c36e_5 : decode cJ3_checkFromIndexSize_8c36e 5 = .ok (.ifCond .lt 10, 3) := by decide +kernel
theorem dJ3_checkFromIndexSize_8c36e_8 : decode cJ3_checkFromIndexSize_8c36e 8 = .ok (.iload_n 1, 1) := by decide +kernel
theorem dJ3_checkFromIndexSize_8c36e_9 : decode cJ3_checkFromIndexSize_8c36e 9 = .ok (.iload_n 2, 1) := by decide +kernel
theorem dJ3_checkFromIndexSize_8c36e_10 : decode cJ3_checkFromIndexSize_8c36e 10 = .ok (.iload_n 0, 1) := by decide +kernel
theorem dJ3_checkFromIndexSize_8c36e_11 : decode cJ3_checkFromIndexSize_8c36e 11 = .ok (.isub, 1) := by decide +kernel
theorem dJ3_checkFromIndexSize_8c36e_12 : decode cJ3_checkFromIndexSize_8c36e 12 = .ok (.if_icmp .le 11, 3) := by decide +kernel
theorem dJ3_checkFromIndexSize_8c36e_15 : decode cJ3_checkFromIndexSize_8c36e 15 = .ok (.aload_n 3, 1) := by decide +kernel
theorem dJ3_checkFromIndexSize_8c36e_16 : decode cJ3_checkFromIndexSize_8c36e 16 = .ok (.iload_n 0, 1) := by decide +kernel
theorem dJ3_checkFromIndexSize_8c36e_17 : decode cJ3_checkFromIndexSize_8c36e 17 = .ok (.iload_n 1, 1) := by decide +kernel
theorem dJ3_checkFromIndexSize_8c36e_18 : decode cJ3_checkFromIndexSize_8c36e 18 = .ok (.iload_n 2, 1) := by decide +kernel
theorem dJ3_checkFromIndexSize_8c36e_19 : decode cJ3_checkFromIndexSize_8c36e 19 = .ok (.invokestatic 103, 3) := by decide +kernel
theorem dJ3_checkFromIndexSize_8c36e_22 : decode cJ3_checkFromIndexSize_8c36e 22 = .ok (.athrow, 1) := by decide +kernel
theorem dJ3_checkFromIndexSize_8c36e_23 : decode cJ3_checkFromIndexSize_8c36e 23 = .ok (.iload_n 0, 1) := by decide +kernel
theorem dJ3_checkFromIndexSize_8c36e_24 : decode cJ3_checkFromIndexSize_8c36e 24 = .ok (.ireturn, 1) := by decide +kernel
