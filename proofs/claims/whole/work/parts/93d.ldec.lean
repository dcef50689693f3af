theorem dL_mend_10 : decode cL_mend 10 = .ok (.i2l, 1) := by decide +kernel
theorem dL_mend_11 : decode cL_mend 11 = .ok (.lastore, 1) := by decide +kernel
theorem dL_mend_12 : decode cL_mend 12 = .ok (.goto 15, 3) := by decide +kernel
theorem dL_mend_15 : decode cL_mend 15 = .ok (.astore 5, 2) := by decide +kernel
theorem dL_mend_17 : decode cL_mend 17 = .ok (.iconst 1, 1) := by decide +kernel
theorem dL_mend_18 : decode cL_mend 18 = .ok (.ireturn, 1) := by decide +kernel
theorem dL_mend_19 : decode cL_mend 19 = .ok (.astore 5, 2) := by decide +kernel
theorem dL_mend_21 : decode cL_mend 21 = .ok (.iconst 2, 1) := by decide +kernel
theorem dL_mend_22 : decode cL_mend 22 = .ok (.ireturn, 1) := by decide +kernel
theorem dL_mend_23 : decode cL_mend 23 = .ok (.astore 5, 2) := by decide +kernel
theorem dL_mend_25 : decode cL_mend 25 = .ok (.iconst 3, 1) := by decide +kernel
theorem dL_mend_26 : decode cL_mend 26 = .ok (.ireturn, 1) := by decide +kernel
theorem dL_mend_27 : decode cL_mend 27 = .ok (.iconst 0, 1) := by decide +kernel
theorem dL_mend_28 : decode cL_mend 28 = .ok (.ireturn, 1) := by decide +kernel
theorem dL_harmedAt_0 : decode cL_harmedAt 0 = .ok (.aload_n 2, 1) := by decide +kernel
theorem dL_harmedAt_1 : decode cL_harmedAt 1 = .ok (.iconst 0, 1) := by decide +kernel
theorem dL_harmedAt_2 : decode cL_harmedAt 2 = .ok (.aload_n 0, 1) := by decide +kernel
theorem dL_harmedAt_3 : decode cL_harmedAt 3 = .ok (.iload_n 1, 1) := by decide +kernel
theorem dL_harmedAt_4 : decode cL_harmedAt 4 = .ok (.invokevirtual 90, 3) := by decide +kernel
theorem dL_harmedAt_7 : decode cL_harmedAt 7 = .ok (.i2l, 1) := by decide +kernel
theorem dL_harmedAt_8 : decode cL_harmedAt 8 = .ok (.lastore, 1) := by decide +kernel
theorem dL_harmedAt_9 : decode cL_harmedAt 9 = .ok (.goto 6, 3) := by decide +kernel
theorem dL_harmedAt_12 : decode cL_harmedAt 12 = .ok (.astore_n 3, 1) := by decide +kernel
theorem dL_harmedAt_13 : decode cL_harmedAt 13 = .ok (.iconst 1, 1) := by decide +kernel
theorem dL_harmedAt_14 : decode cL_harmedAt 14 = .ok (.ireturn, 1) := by decide +kernel
theorem dL_harmedAt_15 : decode cL_harmedAt 15 = .ok (.iconst 0, 1) := by decide +kernel
theorem dL_harmedAt_16 : decode cL_harmedAt 16 = .ok (.ireturn, 1) := by decide +kernel
theorem dL_addCourse_0 : decode cL_addCourse 0 = .ok (.aload_n 3, 1) := by decide +kernel
theorem dL_addCourse_1 : decode cL_addCourse 1 = .ok (.iconst 0, 1) := by decide +kernel
theorem dL_addCourse_2 : decode cL_addCourse 2 = .ok (.aload_n 0, 1) := by decide +kernel
theorem dL_addCourse_3 : decode cL_addCourse 3 = .ok (.iload_n 1, 1) := by decide +kernel
theorem dL_addCourse_4 : decode cL_addCourse 4 = .ok (.iload_n 2, 1) := by decide +kernel
theorem dL_addCourse_5 : decode cL_addCourse 5 = .ok (.invokevirtual 93, 3) := by decide +kernel
theorem dL_addCourse_8 : decode cL_addCourse 8 = .ok (.i2l, 1) := by decide +kernel
theorem dL_addCourse_9 : decode cL_addCourse 9 = .ok (.lastore, 1) := by decide +kernel
theorem dL_addCourse_10 : decode cL_addCourse 10 = .ok (.goto 11, 3) := by decide +kernel
theorem dL_addCourse_13 : decode cL_addCourse 13 = .ok (.astore 4, 2) := by decide +kernel
theorem dL_addCourse_15 : decode cL_addCourse 15 = .ok (.iconst 1, 1) := by decide +kernel
theorem dL_addCourse_16 : decode cL_addCourse 16 = .ok (.ireturn, 1) := by decide +kernel
theorem dL_addCourse_17 : decode cL_addCourse 17 = .ok (.astore 4, 2) := by decide +kernel
theorem dL_addCourse_19 : decode cL_addCourse 19 = .ok (.iconst 2, 1) := by decide +kernel
theorem dL_addCourse_20 : decode cL_addCourse 20 = .ok (.ireturn, 1) := by decide +kernel
theorem dL_addCourse_21 : decode cL_addCourse 21 = .ok (.iconst 0, 1) := by decide +kernel
theorem dL_addCourse_22 : decode cL_addCourse 22 = .ok (.ireturn, 1) := by decide +kernel
theorem dL_issue_0 : decode cL_issue 0 = .ok (.aload_n 3, 1) := by decide +kernel
theorem dL_issue_1 : decode cL_issue 1 = .ok (.iconst 0, 1) := by decide +kernel
theorem dL_issue_2 : decode cL_issue 2 = .ok (.aload_n 0, 1) := by decide +kernel
theorem dL_issue_3 : decode cL_issue 3 = .ok (.iload_n 1, 1) := by decide +kernel
theorem dL_issue_4 : decode cL_issue 4 = .ok (.iload_n 2, 1) := by decide +kernel
theorem dL_issue_5 : decode cL_issue 5 = .ok (.invokevirtual 96, 3) := by decide +kernel
theorem dL_issue_8 : decode cL_issue 8 = .ok (.i2l, 1) := by decide +kernel
theorem dL_issue_9 : decode cL_issue 9 = .ok (.lastore, 1) := by decide +kernel
theorem dL_issue_10 : decode cL_issue 10 = .ok (.goto 15, 3) := by decide +kernel
theorem dL_issue_13 : decode cL_issue 13 = .ok (.astore 4, 2) := by decide +kernel
theorem dL_issue_15 : decode cL_issue 15 = .ok (.iconst 1, 1) := by decide +kernel
theorem dL_issue_16 : decode cL_issue 16 = .ok (.ireturn, 1) := by decide +kernel
theorem dL_issue_17 : decode cL_issue 17 = .ok (.astore 4, 2) := by decide +kernel
theorem dL_issue_19 : decode cL_issue 19 = .ok (.iconst 2, 1) := by decide +kernel
theorem dL_issue_20 : decode cL_issue 20 = .ok (.ireturn, 1) := by decide +kernel
theorem dL_issue_21 : decode cL_issue 21 = .ok (.astore 4, 2) := by decide +kernel
theorem dL_issue_23 : decode cL_issue 23 = .ok (.iconst 3, 1) := by decide +kernel
theorem dL_issue_24 : decode cL_issue 24 = .ok (.ireturn, 1) := by decide +kernel
theorem dL_issue_25 : decode cL_issue 25 = .ok (.iconst 0, 1) := by decide +kernel
theorem dL_issue_26 : decode cL_issue 26 = .ok (.ireturn, 1) := by decide +kernel
theorem dL_doesStand_0 : decode cL_doesStand 0 = .ok (.aload_n 2, 1) := by decide +kernel
theorem dL_doesStand_1 : decode cL_doesStand 1 = .ok (.iconst 0, 1) := by decide +kernel
theorem dL_doesStand_2 : decode cL_doesStand 2 = .ok (.aload_n 0, 1) := by decide +kernel
theorem dL_doesStand_3 : decode cL_doesStand 3 = .ok (.iload_n 1, 1) := by decide +kernel
theorem dL_doesStand_4 : decode cL_doesStand 4 = .ok (.invokevirtual 99, 3) := by decide +kernel
theorem dL_doesStand_7 : decode cL_doesStand 7 = .ok (.ifCond .eq 7, 3) := by decide +kernel
theorem dL_doesStand_10 : decode cL_doesStand 10 = .ok (.lconst 1, 1) := by decide +kernel
theorem dL_doesStand_11 : decode cL_doesStand 11 = .ok (.goto 4, 3) := by decide +kernel
theorem dL_doesStand_14 : decode cL_doesStand 14 = .ok (.lconst 0, 1) := by decide +kernel
theorem dL_doesStand_15 : decode cL_doesStand 15 = .ok (.lastore, 1) := by decide +kernel
theorem dL_doesStand_16 : decode cL_doesStand 16 = .ok (.goto 6, 3) := by decide +kernel
theorem dL_doesStand_19 : decode cL_doesStand 19 = .ok (.astore_n 3, 1) := by decide +kernel
theorem dL_doesStand_20 : decode cL_doesStand 20 = .ok (.iconst 1, 1) := by decide +kernel
theorem dL_doesStand_21 : decode cL_doesStand 21 = .ok (.ireturn, 1) := by decide +kernel
theorem dL_doesStand_22 : decode cL_doesStand 22 = .ok (.iconst 0, 1) := by decide +kernel
theorem dL_doesStand_23 : decode cL_doesStand 23 = .ok (.ireturn, 1) := by decide +kernel
theorem dL_certificateOf_0 : decode cL_certificateOf 0 = .ok (.aload_n 3, 1) := by decide +kernel
theorem dL_certificateOf_1 : decode cL_certificateOf 1 = .ok (.iconst 0, 1) := by decide +kernel
theorem dL_certificateOf_2 : decode cL_certificateOf 2 = .ok (.aload_n 0, 1) := by decide +kernel
theorem dL_certificateOf_3 : decode cL_certificateOf 3 = .ok (.iload_n 1, 1) := by decide +kernel
theorem dL_certificateOf_4 : decode cL_certificateOf 4 = .ok (.iload_n 2, 1) := by decide +kernel
theorem dL_certificateOf_5 : decode cL_certificateOf 5 = .ok (.invokevirtual 103, 3) := by decide +kernel
theorem dL_certificateOf_8 : decode cL_certificateOf 8 = .ok (.i2l, 1) := by decide +kernel
theorem dL_certificateOf_9 : decode cL_certificateOf 9 = .ok (.lastore, 1) := by decide +kernel
theorem dL_certificateOf_10 : decode cL_certificateOf 10 = .ok (.goto 11, 3) := by decide +kernel
theorem dL_certificateOf_13 : decode cL_certificateOf 13 = .ok (.astore 4, 2) := by decide +kernel
theorem dL_certificateOf_15 : decode cL_certificateOf 15 = .ok (.iconst 1, 1) := by decide +kernel
theorem dL_certificateOf_16 : decode cL_certificateOf 16 = .ok (.ireturn, 1) := by decide +kernel
theorem dL_certificateOf_17 : decode cL_certificateOf 17 = .ok (.astore 4, 2) := by decide +kernel
theorem dL_certificateOf_19 : decode cL_certificateOf 19 = .ok (.iconst 2, 1) := by decide +kernel
theorem dL_certificateOf_20 : decode cL_certificateOf 20 = .ok (.ireturn, 1) := by decide +kernel
theorem dL_certificateOf_21 : decode cL_certificateOf 21 = .ok (.iconst 0, 1) := by decide +kernel
theorem dL_certificateOf_22 : decode cL_certificateOf 22 = .ok (.ireturn, 1) := by decide +kernel
theorem dL_pass_0 : decode cL_pass 0 = .ok (.aload_n 2, 1) := by decide +kernel
theorem dL_pass_1 : decode cL_pass 1 = .ok (.iconst 0, 1) := by decide +kernel
theorem dL_pass_2 : decode cL_pass 2 = .ok (.aload_n 0, 1) := by decide +kernel
theorem dL_pass_3 : decode cL_pass 3 = .ok (.iload_n 1, 1) := by decide +kernel
theorem dL_pass_4 : decode cL_pass 4 = .ok (.invokevirtual 106, 3) := by decide +kernel
theorem dL_pass_7 : decode cL_pass 7 = .ok (.i2l, 1) := by decide +kernel
theorem dL_pass_8 : decode cL_pass 8 = .ok (.lastore, 1) := by decide +kernel
theorem dL_pass_9 : decode cL_pass 9 = .ok (.goto 9, 3) := by decide +kernel
theorem dL_pass_12 : decode cL_pass 12 = .ok (.astore_n 3, 1) := by decide +kernel
theorem dL_pass_13 : decode cL_pass 13 = .ok (.iconst 1, 1) := by decide +kernel
theorem dL_pass_14 : decode cL_pass 14 = .ok (.ireturn, 1) := by decide +kernel
theorem dL_pass_15 : decode cL_pass 15 = .ok (.astore_n 3, 1) := by decide +kernel
theorem dL_pass_16 : decode cL_pass 16 = .ok (.iconst 2, 1) := by decide +kernel
theorem dL_pass_17 : decode cL_pass 17 = .ok (.ireturn, 1) := by decide +kernel
theorem dL_pass_18 : decode cL_pass 18 = .ok (.iconst 0, 1) := by decide +kernel
theorem dL_pass_19 : decode cL_pass 19 = .ok (.ireturn, 1) := by decide +kernel
theorem dL_meanGrade_0 : decode cL_meanGrade 0 = .ok (.aload_n 1, 1) := by decide +kernel
theorem dL_meanGrade_1 : decode cL_meanGrade 1 = .ok (.iconst 0, 1) := by decide +kernel
theorem dL_meanGrade_2 : decode cL_meanGrade 2 = .ok (.aload_n 0, 1) := by decide +kernel
theorem dL_meanGrade_3 : decode cL_meanGrade 3 = .ok (.invokevirtual 109, 3) := by decide +kernel
theorem dL_meanGrade_6 : decode cL_meanGrade 6 = .ok (.dastore, 1) := by decide +kernel
theorem dL_meanGrade_7 : decode cL_meanGrade 7 = .ok (.goto 6, 3) := by decide +kernel
theorem dL_meanGrade_10 : decode cL_meanGrade 10 = .ok (.astore_n 2, 1) := by decide +kernel
theorem dL_meanGrade_11 : decode cL_meanGrade 11 = .ok (.iconst 1, 1) := by decide +kernel
theorem dL_meanGrade_12 : decode cL_meanGrade 12 = .ok (.ireturn, 1) := by decide +kernel
theorem dL_meanGrade_13 : decode cL_meanGrade 13 = .ok (.iconst 0, 1) := by decide +kernel
theorem dL_meanGrade_14 : decode cL_meanGrade 14 = .ok (.ireturn, 1) := by decide +kernel
theorem dL_standingShare_0 : decode cL_standingShare 0 = .ok (.aload_n 1, 1) := by decide +kernel
theorem dL_standingShare_1 : decode cL_standingShare 1 = .ok (.iconst 0, 1) := by decide +kernel
theorem dL_standingShare_2 : decode cL_standingShare 2 = .ok (.aload_n 0, 1) := by decide +kernel
theorem dL_standingShare_3 : decode cL_standingShare 3 = .ok (.invokevirtual 115, 3) := by decide +kernel
theorem dL_standingShare_6 : decode cL_standingShare 6 = .ok (.f2d, 1) := by decide +kernel
theorem dL_standingShare_7 : decode cL_standingShare 7 = .ok (.dastore, 1) := by decide +kernel
theorem dL_standingShare_8 : decode cL_standingShare 8 = .ok (.goto 6, 3) := by decide +kernel
theorem dL_standingShare_11 : decode cL_standingShare 11 = .ok (.astore_n 2, 1) := by decide +kernel
theorem dL_standingShare_12 : decode cL_standingShare 12 = .ok (.iconst 1, 1) := by decide +kernel
theorem dL_standingShare_13 : decode cL_standingShare 13 = .ok (.ireturn, 1) := by decide +kernel
theorem dL_standingShare_14 : decode cL_standingShare 14 = .ok (.iconst 0, 1) := by decide +kernel
theorem dL_standingShare_15 : decode cL_standingShare 15 = .ok (.ireturn, 1) := by decide +kernel
theorem dL_writeAnswer_0 : decode cL_writeAnswer 0 = .ok (.aload_n 2, 1) := by decide +kernel
theorem dL_writeAnswer_1 : decode cL_writeAnswer 1 = .ok (.iconst 0, 1) := by decide +kernel
theorem dL_writeAnswer_2 : decode cL_writeAnswer 2 = .ok (.aload_n 0, 1) := by decide +kernel
theorem dL_writeAnswer_3 : decode cL_writeAnswer 3 = .ok (.iload_n 1, 1) := by decide +kernel
theorem dL_writeAnswer_4 : decode cL_writeAnswer 4 = .ok (.invokevirtual 119, 3) := by decide +kernel
theorem dL_writeAnswer_7 : decode cL_writeAnswer 7 = .ok (.i2l, 1) := by decide +kernel
theorem dL_writeAnswer_8 : decode cL_writeAnswer 8 = .ok (.lastore, 1) := by decide +kernel
theorem dL_writeAnswer_9 : decode cL_writeAnswer 9 = .ok (.goto 6, 3) := by decide +kernel
theorem dL_writeAnswer_12 : decode cL_writeAnswer 12 = .ok (.astore_n 3, 1) := by decide +kernel
theorem dL_writeAnswer_13 : decode cL_writeAnswer 13 = .ok (.iconst 1, 1) := by decide +kernel
theorem dL_writeAnswer_14 : decode cL_writeAnswer 14 = .ok (.ireturn, 1) := by decide +kernel
theorem dL_writeAnswer_15 : decode cL_writeAnswer 15 = .ok (.iconst 0, 1) := by decide +kernel
theorem dL_writeAnswer_16 : decode cL_writeAnswer 16 = .ok (.ireturn, 1) := by decide +kernel
theorem dL_lineAt_0 : decode cL_lineAt 0 = .ok (.aload_n 2, 1) := by decide +kernel
theorem dL_lineAt_1 : decode cL_lineAt 1 = .ok (.iconst 0, 1) := by decide +kernel
theorem dL_lineAt_2 : decode cL_lineAt 2 = .ok (.aload_n 0, 1) := by decide +kernel
theorem dL_lineAt_3 : decode cL_lineAt 3 = .ok (.iload_n 1, 1) := by decide +kernel
theorem dL_lineAt_4 : decode cL_lineAt 4 = .ok (.invokevirtual 122, 3) := by decide +kernel
theorem dL_lineAt_7 : decode cL_lineAt 7 = .ok (.i2l, 1) := by decide +kernel
theorem dL_lineAt_8 : decode cL_lineAt 8 = .ok (.lastore, 1) := by decide +kernel
theorem dL_lineAt_9 : decode cL_lineAt 9 = .ok (.goto 6, 3) := by decide +kernel
theorem dL_lineAt_12 : decode cL_lineAt 12 = .ok (.astore_n 3, 1) := by decide +kernel
theorem dL_lineAt_13 : decode cL_lineAt 13 = .ok (.iconst 1, 1) := by decide +kernel
theorem dL_lineAt_14 : decode cL_lineAt 14 = .ok (.ireturn, 1) := by decide +kernel
theorem dL_lineAt_15 : decode cL_lineAt 15 = .ok (.iconst 0, 1) := by decide +kernel
theorem dL_lineAt_16 : decode cL_lineAt 16 = .ok (.ireturn, 1) := by decide +kernel
