theorem dL_gradeOf_16 : decode cL_gradeOf 16 = .ok (.ireturn, 1) := by decide +kernel
theorem dL_gradeAnew_0 : decode cL_gradeAnew 0 = .ok (.aload_n 2, 1) := by decide +kernel
theorem dL_gradeAnew_1 : decode cL_gradeAnew 1 = .ok (.iconst 0, 1) := by decide +kernel
theorem dL_gradeAnew_2 : decode cL_gradeAnew 2 = .ok (.aload_n 0, 1) := by decide +kernel
theorem dL_gradeAnew_3 : decode cL_gradeAnew 3 = .ok (.iload_n 1, 1) := by decide +kernel
theorem dL_gradeAnew_4 : decode cL_gradeAnew 4 = .ok (.invokevirtual 52, 3) := by decide +kernel
theorem dL_gradeAnew_7 : decode cL_gradeAnew 7 = .ok (.i2l, 1) := by decide +kernel
theorem dL_gradeAnew_8 : decode cL_gradeAnew 8 = .ok (.lastore, 1) := by decide +kernel
theorem dL_gradeAnew_9 : decode cL_gradeAnew 9 = .ok (.goto 6, 3) := by decide +kernel
theorem dL_gradeAnew_12 : decode cL_gradeAnew 12 = .ok (.astore_n 3, 1) := by decide +kernel
theorem dL_gradeAnew_13 : decode cL_gradeAnew 13 = .ok (.iconst 1, 1) := by decide +kernel
theorem dL_gradeAnew_14 : decode cL_gradeAnew 14 = .ok (.ireturn, 1) := by decide +kernel
theorem dL_gradeAnew_15 : decode cL_gradeAnew 15 = .ok (.iconst 0, 1) := by decide +kernel
theorem dL_gradeAnew_16 : decode cL_gradeAnew 16 = .ok (.ireturn, 1) := by decide +kernel
theorem dL_creditOf_0 : decode cL_creditOf 0 = .ok (.aload_n 3, 1) := by decide +kernel
theorem dL_creditOf_1 : decode cL_creditOf 1 = .ok (.iconst 0, 1) := by decide +kernel
theorem dL_creditOf_2 : decode cL_creditOf 2 = .ok (.aload_n 0, 1) := by decide +kernel
theorem dL_creditOf_3 : decode cL_creditOf 3 = .ok (.iload_n 1, 1) := by decide +kernel
theorem dL_creditOf_4 : decode cL_creditOf 4 = .ok (.iload_n 2, 1) := by decide +kernel
theorem dL_creditOf_5 : decode cL_creditOf 5 = .ok (.invokevirtual 55, 3) := by decide +kernel
theorem dL_creditOf_8 : decode cL_creditOf 8 = .ok (.i2l, 1) := by decide +kernel
theorem dL_creditOf_9 : decode cL_creditOf 9 = .ok (.lastore, 1) := by decide +kernel
theorem dL_creditOf_10 : decode cL_creditOf 10 = .ok (.goto 11, 3) := by decide +kernel
theorem dL_creditOf_13 : decode cL_creditOf 13 = .ok (.astore 4, 2) := by decide +kernel
theorem dL_creditOf_15 : decode cL_creditOf 15 = .ok (.iconst 1, 1) := by decide +kernel
theorem dL_creditOf_16 : decode cL_creditOf 16 = .ok (.ireturn, 1) := by decide +kernel
theorem dL_creditOf_17 : decode cL_creditOf 17 = .ok (.astore 4, 2) := by decide +kernel
theorem dL_creditOf_19 : decode cL_creditOf 19 = .ok (.iconst 2, 1) := by decide +kernel
theorem dL_creditOf_20 : decode cL_creditOf 20 = .ok (.ireturn, 1) := by decide +kernel
theorem dL_creditOf_21 : decode cL_creditOf 21 = .ok (.iconst 0, 1) := by decide +kernel
theorem dL_creditOf_22 : decode cL_creditOf 22 = .ok (.ireturn, 1) := by decide +kernel
theorem dL_studentOf_0 : decode cL_studentOf 0 = .ok (.aload_n 2, 1) := by decide +kernel
theorem dL_studentOf_1 : decode cL_studentOf 1 = .ok (.iconst 0, 1) := by decide +kernel
theorem dL_studentOf_2 : decode cL_studentOf 2 = .ok (.aload_n 0, 1) := by decide +kernel
theorem dL_studentOf_3 : decode cL_studentOf 3 = .ok (.iload_n 1, 1) := by decide +kernel
theorem dL_studentOf_4 : decode cL_studentOf 4 = .ok (.invokevirtual 60, 3) := by decide +kernel
theorem dL_studentOf_7 : decode cL_studentOf 7 = .ok (.i2l, 1) := by decide +kernel
theorem dL_studentOf_8 : decode cL_studentOf 8 = .ok (.lastore, 1) := by decide +kernel
theorem dL_studentOf_9 : decode cL_studentOf 9 = .ok (.goto 6, 3) := by decide +kernel
theorem dL_studentOf_12 : decode cL_studentOf 12 = .ok (.astore_n 3, 1) := by decide +kernel
theorem dL_studentOf_13 : decode cL_studentOf 13 = .ok (.iconst 1, 1) := by decide +kernel
theorem dL_studentOf_14 : decode cL_studentOf 14 = .ok (.ireturn, 1) := by decide +kernel
theorem dL_studentOf_15 : decode cL_studentOf 15 = .ok (.iconst 0, 1) := by decide +kernel
theorem dL_studentOf_16 : decode cL_studentOf 16 = .ok (.ireturn, 1) := by decide +kernel
theorem dL_dayOf_0 : decode cL_dayOf 0 = .ok (.aload_n 2, 1) := by decide +kernel
theorem dL_dayOf_1 : decode cL_dayOf 1 = .ok (.iconst 0, 1) := by decide +kernel
theorem dL_dayOf_2 : decode cL_dayOf 2 = .ok (.aload_n 0, 1) := by decide +kernel
theorem dL_dayOf_3 : decode cL_dayOf 3 = .ok (.iload_n 1, 1) := by decide +kernel
theorem dL_dayOf_4 : decode cL_dayOf 4 = .ok (.invokevirtual 63, 3) := by decide +kernel
theorem dL_dayOf_7 : decode cL_dayOf 7 = .ok (.i2l, 1) := by decide +kernel
theorem dL_dayOf_8 : decode cL_dayOf 8 = .ok (.lastore, 1) := by decide +kernel
theorem dL_dayOf_9 : decode cL_dayOf 9 = .ok (.goto 6, 3) := by decide +kernel
theorem dL_dayOf_12 : decode cL_dayOf 12 = .ok (.astore_n 3, 1) := by decide +kernel
theorem dL_dayOf_13 : decode cL_dayOf 13 = .ok (.iconst 1, 1) := by decide +kernel
theorem dL_dayOf_14 : decode cL_dayOf 14 = .ok (.ireturn, 1) := by decide +kernel
theorem dL_dayOf_15 : decode cL_dayOf 15 = .ok (.iconst 0, 1) := by decide +kernel
theorem dL_dayOf_16 : decode cL_dayOf 16 = .ok (.ireturn, 1) := by decide +kernel
theorem dL_bestAnswer_0 : decode cL_bestAnswer 0 = .ok (.aload_n 3, 1) := by decide +kernel
theorem dL_bestAnswer_1 : decode cL_bestAnswer 1 = .ok (.iconst 0, 1) := by decide +kernel
theorem dL_bestAnswer_2 : decode cL_bestAnswer 2 = .ok (.aload_n 0, 1) := by decide +kernel
theorem dL_bestAnswer_3 : decode cL_bestAnswer 3 = .ok (.iload_n 1, 1) := by decide +kernel
theorem dL_bestAnswer_4 : decode cL_bestAnswer 4 = .ok (.iload_n 2, 1) := by decide +kernel
theorem dL_bestAnswer_5 : decode cL_bestAnswer 5 = .ok (.invokevirtual 66, 3) := by decide +kernel
theorem dL_bestAnswer_8 : decode cL_bestAnswer 8 = .ok (.i2l, 1) := by decide +kernel
theorem dL_bestAnswer_9 : decode cL_bestAnswer 9 = .ok (.lastore, 1) := by decide +kernel
theorem dL_bestAnswer_10 : decode cL_bestAnswer 10 = .ok (.goto 11, 3) := by decide +kernel
theorem dL_bestAnswer_13 : decode cL_bestAnswer 13 = .ok (.astore 4, 2) := by decide +kernel
theorem dL_bestAnswer_15 : decode cL_bestAnswer 15 = .ok (.iconst 1, 1) := by decide +kernel
theorem dL_bestAnswer_16 : decode cL_bestAnswer 16 = .ok (.ireturn, 1) := by decide +kernel
theorem dL_bestAnswer_17 : decode cL_bestAnswer 17 = .ok (.astore 4, 2) := by decide +kernel
theorem dL_bestAnswer_19 : decode cL_bestAnswer 19 = .ok (.iconst 2, 1) := by decide +kernel
theorem dL_bestAnswer_20 : decode cL_bestAnswer 20 = .ok (.ireturn, 1) := by decide +kernel
theorem dL_bestAnswer_21 : decode cL_bestAnswer 21 = .ok (.iconst 0, 1) := by decide +kernel
theorem dL_bestAnswer_22 : decode cL_bestAnswer 22 = .ok (.ireturn, 1) := by decide +kernel
theorem dL_mastery_0 : decode cL_mastery 0 = .ok (.aload_n 3, 1) := by decide +kernel
theorem dL_mastery_1 : decode cL_mastery 1 = .ok (.iconst 0, 1) := by decide +kernel
theorem dL_mastery_2 : decode cL_mastery 2 = .ok (.aload_n 0, 1) := by decide +kernel
theorem dL_mastery_3 : decode cL_mastery 3 = .ok (.iload_n 1, 1) := by decide +kernel
theorem dL_mastery_4 : decode cL_mastery 4 = .ok (.iload_n 2, 1) := by decide +kernel
theorem dL_mastery_5 : decode cL_mastery 5 = .ok (.invokevirtual 69, 3) := by decide +kernel
theorem dL_mastery_8 : decode cL_mastery 8 = .ok (.i2l, 1) := by decide +kernel
theorem dL_mastery_9 : decode cL_mastery 9 = .ok (.lastore, 1) := by decide +kernel
theorem dL_mastery_10 : decode cL_mastery 10 = .ok (.goto 7, 3) := by decide +kernel
theorem dL_mastery_13 : decode cL_mastery 13 = .ok (.astore 4, 2) := by decide +kernel
theorem dL_mastery_15 : decode cL_mastery 15 = .ok (.iconst 1, 1) := by decide +kernel
theorem dL_mastery_16 : decode cL_mastery 16 = .ok (.ireturn, 1) := by decide +kernel
theorem dL_mastery_17 : decode cL_mastery 17 = .ok (.iconst 0, 1) := by decide +kernel
theorem dL_mastery_18 : decode cL_mastery 18 = .ok (.ireturn, 1) := by decide +kernel
theorem dL_masteryAnew_0 : decode cL_masteryAnew 0 = .ok (.aload_n 3, 1) := by decide +kernel
theorem dL_masteryAnew_1 : decode cL_masteryAnew 1 = .ok (.iconst 0, 1) := by decide +kernel
theorem dL_masteryAnew_2 : decode cL_masteryAnew 2 = .ok (.aload_n 0, 1) := by decide +kernel
theorem dL_masteryAnew_3 : decode cL_masteryAnew 3 = .ok (.iload_n 1, 1) := by decide +kernel
theorem dL_masteryAnew_4 : decode cL_masteryAnew 4 = .ok (.iload_n 2, 1) := by decide +kernel
theorem dL_masteryAnew_5 : decode cL_masteryAnew 5 = .ok (.invokevirtual 72, 3) := by decide +kernel
theorem dL_masteryAnew_8 : decode cL_masteryAnew 8 = .ok (.i2l, 1) := by decide +kernel
theorem dL_masteryAnew_9 : decode cL_masteryAnew 9 = .ok (.lastore, 1) := by decide +kernel
theorem dL_masteryAnew_10 : decode cL_masteryAnew 10 = .ok (.goto 7, 3) := by decide +kernel
theorem dL_masteryAnew_13 : decode cL_masteryAnew 13 = .ok (.astore 4, 2) := by decide +kernel
theorem dL_masteryAnew_15 : decode cL_masteryAnew 15 = .ok (.iconst 1, 1) := by decide +kernel
theorem dL_masteryAnew_16 : decode cL_masteryAnew 16 = .ok (.ireturn, 1) := by decide +kernel
theorem dL_masteryAnew_17 : decode cL_masteryAnew 17 = .ok (.iconst 0, 1) := by decide +kernel
theorem dL_masteryAnew_18 : decode cL_masteryAnew 18 = .ok (.ireturn, 1) := by decide +kernel
theorem dL_appeal_0 : decode cL_appeal 0 = .ok (.aload_n 2, 1) := by decide +kernel
theorem dL_appeal_1 : decode cL_appeal 1 = .ok (.iconst 0, 1) := by decide +kernel
theorem dL_appeal_2 : decode cL_appeal 2 = .ok (.aload_n 0, 1) := by decide +kernel
theorem dL_appeal_3 : decode cL_appeal 3 = .ok (.iload_n 1, 1) := by decide +kernel
theorem dL_appeal_4 : decode cL_appeal 4 = .ok (.invokevirtual 75, 3) := by decide +kernel
theorem dL_appeal_7 : decode cL_appeal 7 = .ok (.i2l, 1) := by decide +kernel
theorem dL_appeal_8 : decode cL_appeal 8 = .ok (.lastore, 1) := by decide +kernel
theorem dL_appeal_9 : decode cL_appeal 9 = .ok (.goto 9, 3) := by decide +kernel
theorem dL_appeal_12 : decode cL_appeal 12 = .ok (.astore_n 3, 1) := by decide +kernel
theorem dL_appeal_13 : decode cL_appeal 13 = .ok (.iconst 1, 1) := by decide +kernel
theorem dL_appeal_14 : decode cL_appeal 14 = .ok (.ireturn, 1) := by decide +kernel
theorem dL_appeal_15 : decode cL_appeal 15 = .ok (.astore_n 3, 1) := by decide +kernel
theorem dL_appeal_16 : decode cL_appeal 16 = .ok (.iconst 2, 1) := by decide +kernel
theorem dL_appeal_17 : decode cL_appeal 17 = .ok (.ireturn, 1) := by decide +kernel
theorem dL_appeal_18 : decode cL_appeal 18 = .ok (.iconst 0, 1) := by decide +kernel
theorem dL_appeal_19 : decode cL_appeal 19 = .ok (.ireturn, 1) := by decide +kernel
theorem dL_withdraw_0 : decode cL_withdraw 0 = .ok (.aload_n 2, 1) := by decide +kernel
theorem dL_withdraw_1 : decode cL_withdraw 1 = .ok (.iconst 0, 1) := by decide +kernel
theorem dL_withdraw_2 : decode cL_withdraw 2 = .ok (.aload_n 0, 1) := by decide +kernel
theorem dL_withdraw_3 : decode cL_withdraw 3 = .ok (.iload_n 1, 1) := by decide +kernel
theorem dL_withdraw_4 : decode cL_withdraw 4 = .ok (.invokevirtual 78, 3) := by decide +kernel
theorem dL_withdraw_7 : decode cL_withdraw 7 = .ok (.i2l, 1) := by decide +kernel
theorem dL_withdraw_8 : decode cL_withdraw 8 = .ok (.lastore, 1) := by decide +kernel
theorem dL_withdraw_9 : decode cL_withdraw 9 = .ok (.goto 9, 3) := by decide +kernel
theorem dL_withdraw_12 : decode cL_withdraw 12 = .ok (.astore_n 3, 1) := by decide +kernel
theorem dL_withdraw_13 : decode cL_withdraw 13 = .ok (.iconst 1, 1) := by decide +kernel
theorem dL_withdraw_14 : decode cL_withdraw 14 = .ok (.ireturn, 1) := by decide +kernel
theorem dL_withdraw_15 : decode cL_withdraw 15 = .ok (.astore_n 3, 1) := by decide +kernel
theorem dL_withdraw_16 : decode cL_withdraw 16 = .ok (.iconst 2, 1) := by decide +kernel
theorem dL_withdraw_17 : decode cL_withdraw 17 = .ok (.ireturn, 1) := by decide +kernel
theorem dL_withdraw_18 : decode cL_withdraw 18 = .ok (.iconst 0, 1) := by decide +kernel
theorem dL_withdraw_19 : decode cL_withdraw 19 = .ok (.ireturn, 1) := by decide +kernel
theorem dL_decide_0 : decode cL_decide 0 = .ok (.aload_n 2, 1) := by decide +kernel
theorem dL_decide_1 : decode cL_decide 1 = .ok (.iconst 0, 1) := by decide +kernel
theorem dL_decide_2 : decode cL_decide 2 = .ok (.aload_n 0, 1) := by decide +kernel
theorem dL_decide_3 : decode cL_decide 3 = .ok (.iload_n 1, 1) := by decide +kernel
theorem dL_decide_4 : decode cL_decide 4 = .ok (.invokevirtual 81, 3) := by decide +kernel
theorem dL_decide_7 : decode cL_decide 7 = .ok (.i2l, 1) := by decide +kernel
theorem dL_decide_8 : decode cL_decide 8 = .ok (.lastore, 1) := by decide +kernel
theorem dL_decide_9 : decode cL_decide 9 = .ok (.goto 9, 3) := by decide +kernel
theorem dL_decide_12 : decode cL_decide 12 = .ok (.astore_n 3, 1) := by decide +kernel
theorem dL_decide_13 : decode cL_decide 13 = .ok (.iconst 1, 1) := by decide +kernel
theorem dL_decide_14 : decode cL_decide 14 = .ok (.ireturn, 1) := by decide +kernel
theorem dL_decide_15 : decode cL_decide 15 = .ok (.astore_n 3, 1) := by decide +kernel
theorem dL_decide_16 : decode cL_decide 16 = .ok (.iconst 2, 1) := by decide +kernel
theorem dL_decide_17 : decode cL_decide 17 = .ok (.ireturn, 1) := by decide +kernel
theorem dL_decide_18 : decode cL_decide 18 = .ok (.iconst 0, 1) := by decide +kernel
theorem dL_decide_19 : decode cL_decide 19 = .ok (.ireturn, 1) := by decide +kernel
theorem dL_appealAt_0 : decode cL_appealAt 0 = .ok (.aload_n 2, 1) := by decide +kernel
theorem dL_appealAt_1 : decode cL_appealAt 1 = .ok (.iconst 0, 1) := by decide +kernel
theorem dL_appealAt_2 : decode cL_appealAt 2 = .ok (.aload_n 0, 1) := by decide +kernel
theorem dL_appealAt_3 : decode cL_appealAt 3 = .ok (.iload_n 1, 1) := by decide +kernel
theorem dL_appealAt_4 : decode cL_appealAt 4 = .ok (.invokevirtual 84, 3) := by decide +kernel
theorem dL_appealAt_7 : decode cL_appealAt 7 = .ok (.i2l, 1) := by decide +kernel
theorem dL_appealAt_8 : decode cL_appealAt 8 = .ok (.lastore, 1) := by decide +kernel
theorem dL_appealAt_9 : decode cL_appealAt 9 = .ok (.goto 6, 3) := by decide +kernel
theorem dL_appealAt_12 : decode cL_appealAt 12 = .ok (.astore_n 3, 1) := by decide +kernel
theorem dL_appealAt_13 : decode cL_appealAt 13 = .ok (.iconst 1, 1) := by decide +kernel
theorem dL_appealAt_14 : decode cL_appealAt 14 = .ok (.ireturn, 1) := by decide +kernel
theorem dL_appealAt_15 : decode cL_appealAt 15 = .ok (.iconst 0, 1) := by decide +kernel
theorem dL_appealAt_16 : decode cL_appealAt 16 = .ok (.ireturn, 1) := by decide +kernel
theorem dL_mend_0 : decode cL_mend 0 = .ok (.aload 4, 2) := by decide +kernel
theorem dL_mend_2 : decode cL_mend 2 = .ok (.iconst 0, 1) := by decide +kernel
theorem dL_mend_3 : decode cL_mend 3 = .ok (.aload_n 0, 1) := by decide +kernel
theorem dL_mend_4 : decode cL_mend 4 = .ok (.iload_n 1, 1) := by decide +kernel
theorem dL_mend_5 : decode cL_mend 5 = .ok (.iload_n 2, 1) := by decide +kernel
theorem dL_mend_6 : decode cL_mend 6 = .ok (.iload_n 3, 1) := by decide +kernel
theorem dL_mend_7 : decode cL_mend 7 = .ok (.invokevirtual 87, 3) := by decide +kernel
