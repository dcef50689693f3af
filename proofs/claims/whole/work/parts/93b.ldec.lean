theorem dL_addCohort_0 : decode cL_addCohort 0 = .ok (.aload_n 3, 1) := by decide +kernel
theorem dL_addCohort_1 : decode cL_addCohort 1 = .ok (.iconst 0, 1) := by decide +kernel
theorem dL_addCohort_2 : decode cL_addCohort 2 = .ok (.aload_n 0, 1) := by decide +kernel
theorem dL_addCohort_3 : decode cL_addCohort 3 = .ok (.iload_n 1, 1) := by decide +kernel
theorem dL_addCohort_4 : decode cL_addCohort 4 = .ok (.iload_n 2, 1) := by decide +kernel
theorem dL_addCohort_5 : decode cL_addCohort 5 = .ok (.invokevirtual 7, 3) := by decide +kernel
theorem dL_addCohort_8 : decode cL_addCohort 8 = .ok (.i2l, 1) := by decide +kernel
theorem dL_addCohort_9 : decode cL_addCohort 9 = .ok (.lastore, 1) := by decide +kernel
theorem dL_addCohort_10 : decode cL_addCohort 10 = .ok (.goto 11, 3) := by decide +kernel
theorem dL_addCohort_13 : decode cL_addCohort 13 = .ok (.astore 4, 2) := by decide +kernel
theorem dL_addCohort_15 : decode cL_addCohort 15 = .ok (.iconst 1, 1) := by decide +kernel
theorem dL_addCohort_16 : decode cL_addCohort 16 = .ok (.ireturn, 1) := by decide +kernel
theorem dL_addCohort_17 : decode cL_addCohort 17 = .ok (.astore 4, 2) := by decide +kernel
theorem dL_addCohort_19 : decode cL_addCohort 19 = .ok (.iconst 2, 1) := by decide +kernel
theorem dL_addCohort_20 : decode cL_addCohort 20 = .ok (.ireturn, 1) := by decide +kernel
theorem dL_addCohort_21 : decode cL_addCohort 21 = .ok (.iconst 0, 1) := by decide +kernel
theorem dL_addCohort_22 : decode cL_addCohort 22 = .ok (.ireturn, 1) := by decide +kernel
theorem dL_addStudent_0 : decode cL_addStudent 0 = .ok (.aload_n 2, 1) := by decide +kernel
theorem dL_addStudent_1 : decode cL_addStudent 1 = .ok (.iconst 0, 1) := by decide +kernel
theorem dL_addStudent_2 : decode cL_addStudent 2 = .ok (.aload_n 0, 1) := by decide +kernel
theorem dL_addStudent_3 : decode cL_addStudent 3 = .ok (.iload_n 1, 1) := by decide +kernel
theorem dL_addStudent_4 : decode cL_addStudent 4 = .ok (.invokevirtual 17, 3) := by decide +kernel
theorem dL_addStudent_7 : decode cL_addStudent 7 = .ok (.i2l, 1) := by decide +kernel
theorem dL_addStudent_8 : decode cL_addStudent 8 = .ok (.lastore, 1) := by decide +kernel
theorem dL_addStudent_9 : decode cL_addStudent 9 = .ok (.goto 9, 3) := by decide +kernel
theorem dL_addStudent_12 : decode cL_addStudent 12 = .ok (.astore_n 3, 1) := by decide +kernel
theorem dL_addStudent_13 : decode cL_addStudent 13 = .ok (.iconst 1, 1) := by decide +kernel
theorem dL_addStudent_14 : decode cL_addStudent 14 = .ok (.ireturn, 1) := by decide +kernel
theorem dL_addStudent_15 : decode cL_addStudent 15 = .ok (.astore_n 3, 1) := by decide +kernel
theorem dL_addStudent_16 : decode cL_addStudent 16 = .ok (.iconst 2, 1) := by decide +kernel
theorem dL_addStudent_17 : decode cL_addStudent 17 = .ok (.ireturn, 1) := by decide +kernel
theorem dL_addStudent_18 : decode cL_addStudent 18 = .ok (.iconst 0, 1) := by decide +kernel
theorem dL_addStudent_19 : decode cL_addStudent 19 = .ok (.ireturn, 1) := by decide +kernel
theorem dL_addLesson_0 : decode cL_addLesson 0 = .ok (.aload_n 3, 1) := by decide +kernel
theorem dL_addLesson_1 : decode cL_addLesson 1 = .ok (.iconst 0, 1) := by decide +kernel
theorem dL_addLesson_2 : decode cL_addLesson 2 = .ok (.aload_n 0, 1) := by decide +kernel
theorem dL_addLesson_3 : decode cL_addLesson 3 = .ok (.iload_n 1, 1) := by decide +kernel
theorem dL_addLesson_4 : decode cL_addLesson 4 = .ok (.iload_n 2, 1) := by decide +kernel
theorem dL_addLesson_5 : decode cL_addLesson 5 = .ok (.invokevirtual 23, 3) := by decide +kernel
theorem dL_addLesson_8 : decode cL_addLesson 8 = .ok (.i2l, 1) := by decide +kernel
theorem dL_addLesson_9 : decode cL_addLesson 9 = .ok (.lastore, 1) := by decide +kernel
theorem dL_addLesson_10 : decode cL_addLesson 10 = .ok (.goto 11, 3) := by decide +kernel
theorem dL_addLesson_13 : decode cL_addLesson 13 = .ok (.astore 4, 2) := by decide +kernel
theorem dL_addLesson_15 : decode cL_addLesson 15 = .ok (.iconst 1, 1) := by decide +kernel
theorem dL_addLesson_16 : decode cL_addLesson 16 = .ok (.ireturn, 1) := by decide +kernel
theorem dL_addLesson_17 : decode cL_addLesson 17 = .ok (.astore 4, 2) := by decide +kernel
theorem dL_addLesson_19 : decode cL_addLesson 19 = .ok (.iconst 2, 1) := by decide +kernel
theorem dL_addLesson_20 : decode cL_addLesson 20 = .ok (.ireturn, 1) := by decide +kernel
theorem dL_addLesson_21 : decode cL_addLesson 21 = .ok (.iconst 0, 1) := by decide +kernel
theorem dL_addLesson_22 : decode cL_addLesson 22 = .ok (.ireturn, 1) := by decide +kernel
theorem dL_addExercise_0 : decode cL_addExercise 0 = .ok (.aload 5, 2) := by decide +kernel
theorem dL_addExercise_2 : decode cL_addExercise 2 = .ok (.iconst 0, 1) := by decide +kernel
theorem dL_addExercise_3 : decode cL_addExercise 3 = .ok (.aload_n 0, 1) := by decide +kernel
theorem dL_addExercise_4 : decode cL_addExercise 4 = .ok (.iload_n 1, 1) := by decide +kernel
theorem dL_addExercise_5 : decode cL_addExercise 5 = .ok (.iload_n 2, 1) := by decide +kernel
theorem dL_addExercise_6 : decode cL_addExercise 6 = .ok (.iload_n 3, 1) := by decide +kernel
theorem dL_addExercise_7 : decode cL_addExercise 7 = .ok (.iload 4, 2) := by decide +kernel
theorem dL_addExercise_9 : decode cL_addExercise 9 = .ok (.invokevirtual 26, 3) := by decide +kernel
theorem dL_addExercise_12 : decode cL_addExercise 12 = .ok (.i2l, 1) := by decide +kernel
theorem dL_addExercise_13 : decode cL_addExercise 13 = .ok (.lastore, 1) := by decide +kernel
theorem dL_addExercise_14 : decode cL_addExercise 14 = .ok (.goto 15, 3) := by decide +kernel
theorem dL_addExercise_17 : decode cL_addExercise 17 = .ok (.astore 6, 2) := by decide +kernel
theorem dL_addExercise_19 : decode cL_addExercise 19 = .ok (.iconst 1, 1) := by decide +kernel
theorem dL_addExercise_20 : decode cL_addExercise 20 = .ok (.ireturn, 1) := by decide +kernel
theorem dL_addExercise_21 : decode cL_addExercise 21 = .ok (.astore 6, 2) := by decide +kernel
theorem dL_addExercise_23 : decode cL_addExercise 23 = .ok (.iconst 2, 1) := by decide +kernel
theorem dL_addExercise_24 : decode cL_addExercise 24 = .ok (.ireturn, 1) := by decide +kernel
theorem dL_addExercise_25 : decode cL_addExercise 25 = .ok (.astore 6, 2) := by decide +kernel
theorem dL_addExercise_27 : decode cL_addExercise 27 = .ok (.iconst 3, 1) := by decide +kernel
theorem dL_addExercise_28 : decode cL_addExercise 28 = .ok (.ireturn, 1) := by decide +kernel
theorem dL_addExercise_29 : decode cL_addExercise 29 = .ok (.iconst 0, 1) := by decide +kernel
theorem dL_addExercise_30 : decode cL_addExercise 30 = .ok (.ireturn, 1) := by decide +kernel
theorem dL_addCase_0 : decode cL_addCase 0 = .ok (.aload 4, 2) := by decide +kernel
theorem dL_addCase_2 : decode cL_addCase 2 = .ok (.iconst 0, 1) := by decide +kernel
theorem dL_addCase_3 : decode cL_addCase 3 = .ok (.aload_n 0, 1) := by decide +kernel
theorem dL_addCase_4 : decode cL_addCase 4 = .ok (.iload_n 1, 1) := by decide +kernel
theorem dL_addCase_5 : decode cL_addCase 5 = .ok (.iload_n 2, 1) := by decide +kernel
theorem dL_addCase_6 : decode cL_addCase 6 = .ok (.iload_n 3, 1) := by decide +kernel
theorem dL_addCase_7 : decode cL_addCase 7 = .ok (.invokevirtual 30, 3) := by decide +kernel
theorem dL_addCase_10 : decode cL_addCase 10 = .ok (.i2l, 1) := by decide +kernel
theorem dL_addCase_11 : decode cL_addCase 11 = .ok (.lastore, 1) := by decide +kernel
theorem dL_addCase_12 : decode cL_addCase 12 = .ok (.goto 15, 3) := by decide +kernel
theorem dL_addCase_15 : decode cL_addCase 15 = .ok (.astore 5, 2) := by decide +kernel
theorem dL_addCase_17 : decode cL_addCase 17 = .ok (.iconst 1, 1) := by decide +kernel
theorem dL_addCase_18 : decode cL_addCase 18 = .ok (.ireturn, 1) := by decide +kernel
theorem dL_addCase_19 : decode cL_addCase 19 = .ok (.astore 5, 2) := by decide +kernel
theorem dL_addCase_21 : decode cL_addCase 21 = .ok (.iconst 2, 1) := by decide +kernel
theorem dL_addCase_22 : decode cL_addCase 22 = .ok (.ireturn, 1) := by decide +kernel
theorem dL_addCase_23 : decode cL_addCase 23 = .ok (.astore 5, 2) := by decide +kernel
theorem dL_addCase_25 : decode cL_addCase 25 = .ok (.iconst 3, 1) := by decide +kernel
theorem dL_addCase_26 : decode cL_addCase 26 = .ok (.ireturn, 1) := by decide +kernel
theorem dL_addCase_27 : decode cL_addCase 27 = .ok (.iconst 0, 1) := by decide +kernel
theorem dL_addCase_28 : decode cL_addCase 28 = .ok (.ireturn, 1) := by decide +kernel
theorem dL_versionOf_0 : decode cL_versionOf 0 = .ok (.aload_n 2, 1) := by decide +kernel
theorem dL_versionOf_1 : decode cL_versionOf 1 = .ok (.iconst 0, 1) := by decide +kernel
theorem dL_versionOf_2 : decode cL_versionOf 2 = .ok (.aload_n 0, 1) := by decide +kernel
theorem dL_versionOf_3 : decode cL_versionOf 3 = .ok (.iload_n 1, 1) := by decide +kernel
theorem dL_versionOf_4 : decode cL_versionOf 4 = .ok (.invokevirtual 34, 3) := by decide +kernel
theorem dL_versionOf_7 : decode cL_versionOf 7 = .ok (.i2l, 1) := by decide +kernel
theorem dL_versionOf_8 : decode cL_versionOf 8 = .ok (.lastore, 1) := by decide +kernel
theorem dL_versionOf_9 : decode cL_versionOf 9 = .ok (.goto 6, 3) := by decide +kernel
theorem dL_versionOf_12 : decode cL_versionOf 12 = .ok (.astore_n 3, 1) := by decide +kernel
theorem dL_versionOf_13 : decode cL_versionOf 13 = .ok (.iconst 1, 1) := by decide +kernel
theorem dL_versionOf_14 : decode cL_versionOf 14 = .ok (.ireturn, 1) := by decide +kernel
theorem dL_versionOf_15 : decode cL_versionOf 15 = .ok (.iconst 0, 1) := by decide +kernel
theorem dL_versionOf_16 : decode cL_versionOf 16 = .ok (.ireturn, 1) := by decide +kernel
theorem dL_openLessons_0 : decode cL_openLessons 0 = .ok (.aload_n 2, 1) := by decide +kernel
theorem dL_openLessons_1 : decode cL_openLessons 1 = .ok (.iconst 0, 1) := by decide +kernel
theorem dL_openLessons_2 : decode cL_openLessons 2 = .ok (.aload_n 0, 1) := by decide +kernel
theorem dL_openLessons_3 : decode cL_openLessons 3 = .ok (.iload_n 1, 1) := by decide +kernel
theorem dL_openLessons_4 : decode cL_openLessons 4 = .ok (.invokevirtual 37, 3) := by decide +kernel
theorem dL_openLessons_7 : decode cL_openLessons 7 = .ok (.i2l, 1) := by decide +kernel
theorem dL_openLessons_8 : decode cL_openLessons 8 = .ok (.lastore, 1) := by decide +kernel
theorem dL_openLessons_9 : decode cL_openLessons 9 = .ok (.goto 6, 3) := by decide +kernel
theorem dL_openLessons_12 : decode cL_openLessons 12 = .ok (.astore_n 3, 1) := by decide +kernel
theorem dL_openLessons_13 : decode cL_openLessons 13 = .ok (.iconst 1, 1) := by decide +kernel
theorem dL_openLessons_14 : decode cL_openLessons 14 = .ok (.ireturn, 1) := by decide +kernel
theorem dL_openLessons_15 : decode cL_openLessons 15 = .ok (.iconst 0, 1) := by decide +kernel
theorem dL_openLessons_16 : decode cL_openLessons 16 = .ok (.ireturn, 1) := by decide +kernel
theorem dL_reason_0 : decode cL_reason 0 = .ok (.aload_n 3, 1) := by decide +kernel
theorem dL_reason_1 : decode cL_reason 1 = .ok (.iconst 0, 1) := by decide +kernel
theorem dL_reason_2 : decode cL_reason 2 = .ok (.aload_n 0, 1) := by decide +kernel
theorem dL_reason_3 : decode cL_reason 3 = .ok (.iload_n 1, 1) := by decide +kernel
theorem dL_reason_4 : decode cL_reason 4 = .ok (.iload_n 2, 1) := by decide +kernel
theorem dL_reason_5 : decode cL_reason 5 = .ok (.invokevirtual 40, 3) := by decide +kernel
theorem dL_reason_8 : decode cL_reason 8 = .ok (.i2l, 1) := by decide +kernel
theorem dL_reason_9 : decode cL_reason 9 = .ok (.lastore, 1) := by decide +kernel
theorem dL_reason_10 : decode cL_reason 10 = .ok (.goto 7, 3) := by decide +kernel
theorem dL_reason_13 : decode cL_reason 13 = .ok (.astore 4, 2) := by decide +kernel
theorem dL_reason_15 : decode cL_reason 15 = .ok (.iconst 1, 1) := by decide +kernel
theorem dL_reason_16 : decode cL_reason 16 = .ok (.ireturn, 1) := by decide +kernel
theorem dL_reason_17 : decode cL_reason 17 = .ok (.iconst 0, 1) := by decide +kernel
theorem dL_reason_18 : decode cL_reason 18 = .ok (.ireturn, 1) := by decide +kernel
theorem dL_answer_0 : decode cL_answer 0 = .ok (.aload 5, 2) := by decide +kernel
theorem dL_answer_2 : decode cL_answer 2 = .ok (.iconst 0, 1) := by decide +kernel
theorem dL_answer_3 : decode cL_answer 3 = .ok (.aload_n 0, 1) := by decide +kernel
theorem dL_answer_4 : decode cL_answer 4 = .ok (.iload_n 1, 1) := by decide +kernel
theorem dL_answer_5 : decode cL_answer 5 = .ok (.iload_n 2, 1) := by decide +kernel
theorem dL_answer_6 : decode cL_answer 6 = .ok (.iload_n 3, 1) := by decide +kernel
theorem dL_answer_7 : decode cL_answer 7 = .ok (.iload 4, 2) := by decide +kernel
theorem dL_answer_9 : decode cL_answer 9 = .ok (.invokevirtual 44, 3) := by decide +kernel
theorem dL_answer_12 : decode cL_answer 12 = .ok (.i2l, 1) := by decide +kernel
theorem dL_answer_13 : decode cL_answer 13 = .ok (.lastore, 1) := by decide +kernel
theorem dL_answer_14 : decode cL_answer 14 = .ok (.goto 19, 3) := by decide +kernel
theorem dL_answer_17 : decode cL_answer 17 = .ok (.astore 6, 2) := by decide +kernel
theorem dL_answer_19 : decode cL_answer 19 = .ok (.iconst 1, 1) := by decide +kernel
theorem dL_answer_20 : decode cL_answer 20 = .ok (.ireturn, 1) := by decide +kernel
theorem dL_answer_21 : decode cL_answer 21 = .ok (.astore 6, 2) := by decide +kernel
theorem dL_answer_23 : decode cL_answer 23 = .ok (.iconst 2, 1) := by decide +kernel
theorem dL_answer_24 : decode cL_answer 24 = .ok (.ireturn, 1) := by decide +kernel
theorem dL_answer_25 : decode cL_answer 25 = .ok (.astore 6, 2) := by decide +kernel
theorem dL_answer_27 : decode cL_answer 27 = .ok (.iconst 3, 1) := by decide +kernel
theorem dL_answer_28 : decode cL_answer 28 = .ok (.ireturn, 1) := by decide +kernel
theorem dL_answer_29 : decode cL_answer 29 = .ok (.astore 6, 2) := by decide +kernel
theorem dL_answer_31 : decode cL_answer 31 = .ok (.iconst 4, 1) := by decide +kernel
theorem dL_answer_32 : decode cL_answer 32 = .ok (.ireturn, 1) := by decide +kernel
theorem dL_answer_33 : decode cL_answer 33 = .ok (.iconst 0, 1) := by decide +kernel
theorem dL_answer_34 : decode cL_answer 34 = .ok (.ireturn, 1) := by decide +kernel
theorem dL_gradeOf_0 : decode cL_gradeOf 0 = .ok (.aload_n 2, 1) := by decide +kernel
theorem dL_gradeOf_1 : decode cL_gradeOf 1 = .ok (.iconst 0, 1) := by decide +kernel
theorem dL_gradeOf_2 : decode cL_gradeOf 2 = .ok (.aload_n 0, 1) := by decide +kernel
theorem dL_gradeOf_3 : decode cL_gradeOf 3 = .ok (.iload_n 1, 1) := by decide +kernel
theorem dL_gradeOf_4 : decode cL_gradeOf 4 = .ok (.invokevirtual 49, 3) := by decide +kernel
theorem dL_gradeOf_7 : decode cL_gradeOf 7 = .ok (.i2l, 1) := by decide +kernel
theorem dL_gradeOf_8 : decode cL_gradeOf 8 = .ok (.lastore, 1) := by decide +kernel
theorem dL_gradeOf_9 : decode cL_gradeOf 9 = .ok (.goto 6, 3) := by decide +kernel
theorem dL_gradeOf_12 : decode cL_gradeOf 12 = .ok (.astore_n 3, 1) := by decide +kernel
theorem dL_gradeOf_13 : decode cL_gradeOf 13 = .ok (.iconst 1, 1) := by decide +kernel
theorem dL_gradeOf_14 : decode cL_gradeOf 14 = .ok (.ireturn, 1) := by decide +kernel
theorem dL_gradeOf_15 : decode cL_gradeOf 15 = .ok (.iconst 0, 1) := by decide +kernel
