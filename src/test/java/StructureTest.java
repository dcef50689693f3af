/** Promises 1 to 8: a new object, cohorts, students, lessons, exercises and cases. */
public final class StructureTest {
    private static final Checks CHECKS = new Checks();
    private static final int LEAST = Integer.MIN_VALUE;
    private static final int MOST = Integer.MAX_VALUE;

    public static void main(String[] args) {
        newObject();
        addCohort();
        addStudent();
        addLesson();
        addExercise();
        addCase();
        addCaseAfterAnswers();
        versionOf();
        openLessons();
        CHECKS.finish("StructureTest");
    }

    private static void newObject() {
        CourseForge x = new CourseForge();
        CHECKS.due("today of a new object", x.today(), 0);
        CHECKS.due("answerCount of a new object", x.answerCount(), 0);
        CHECKS.due("appealCount of a new object", x.appealCount(), 0);
        CHECKS.due("harmedCount of a new object", x.harmedCount(), 0);
        CHECKS.due("revoked of a new object", x.revoked(), 0);
        CHECKS.due("isConsistent of a new object", x.isConsistent(), true);
        CHECKS.throwsIndex(x, "addStudent(0) to a new object", () -> x.addStudent(0));
        CHECKS.throwsIndex(x, "openLessons(0) of a new object", () -> x.openLessons(0));
        CHECKS.throwsIndex(x, "versionOf(0) of a new object", () -> x.versionOf(0));
        CHECKS.throwsIndex(x, "addCase(0, 0, 1) to a new object", () -> x.addCase(0, 0, 1));
        CHECKS.throwsIndex(x, "gradeOf(0) of a new object", () -> x.gradeOf(0));
        CHECKS.throwsIndex(x, "doesStand(0) of a new object", () -> x.doesStand(0));
        CHECKS.throwsArgument(x, "addCourse(1, 1) to a new object", () -> x.addCourse(1, 1));
        CHECKS.due("a second object", new CourseForge().addCohort(0, 0), 0);
        CHECKS.due("apart from the first", x.addCohort(1, 1), 0);
    }

    private static void addCohort() {
        CourseForge x = new CourseForge();
        CHECKS.throwsArgument(x, "addCohort(-1, 0)", () -> x.addCohort(-1, 0));
        CHECKS.throwsArgument(x, "addCohort(0, 1000)", () -> x.addCohort(0, 1000));
        CHECKS.throwsArgument(x, "addCohort(1000, 1000)", () -> x.addCohort(1000, 1000));
        CHECKS.throwsArgument(x, "addCohort(7, 6)", () -> x.addCohort(7, 6));
        CHECKS.throwsArgument(x, "addCohort(least, most)", () -> x.addCohort(LEAST, MOST));
        CHECKS.due("addCohort(0, 999)", x.addCohort(0, 999), 0);
        CHECKS.due("addCohort(999, 999)", x.addCohort(999, 999), 1);
        CHECKS.due("addCohort(0, 0)", x.addCohort(0, 0), 2);
        CHECKS.due("addCohort(3, 4)", x.addCohort(3, 4), 3);
        CHECKS.throwsState(x, "a fifth cohort", () -> x.addCohort(0, 1));
        CHECKS.throwsArgument(x, "a fifth cohort out of range", () -> x.addCohort(2, 1));
        x.addLesson(0, 0);
        x.addExercise(0, 1, 0, 0);
        x.addCase(0, 1, 1);
        for (int cohort = 0; cohort < 4; cohort++) {
            x.addStudent(cohort);
        }
        CHECKS.due("day 0 of the days 0 to 999", x.reason(0, 0), '-');
        CHECKS.due("day 0 of the days 999 to 999", x.reason(1, 0), 'd');
        CHECKS.due("day 0 of the days 0 to 0", x.reason(2, 0), '-');
        CHECKS.due("day 0 of the days 3 to 4", x.reason(3, 0), 'd');
        x.pass(2);
        CHECKS.due("day 2 of the days 3 to 4", x.reason(3, 0), 'd');
        x.pass(1);
        CHECKS.due("day 3 of the days 3 to 4", x.reason(3, 0), '-');
        CHECKS.due("day 3 of the days 0 to 0", x.reason(2, 0), 'd');
        x.pass(1);
        CHECKS.due("day 4 of the days 3 to 4", x.reason(3, 0), '-');
        x.pass(1);
        CHECKS.due("day 5 of the days 3 to 4", x.reason(3, 0), 'd');
    }

    private static void addStudent() {
        CourseForge x = new CourseForge();
        CHECKS.throwsIndex(x, "addStudent(0) without cohorts", () -> x.addStudent(0));
        x.addCohort(0, 9);
        x.addCohort(5, 9);
        CHECKS.throwsIndex(x, "addStudent(-1)", () -> x.addStudent(-1));
        CHECKS.throwsIndex(x, "addStudent(2)", () -> x.addStudent(2));
        CHECKS.throwsIndex(x, "addStudent(least)", () -> x.addStudent(LEAST));
        for (int student = 0; student < 8; student++) {
            CHECKS.due("addStudent, the number " + student, x.addStudent(student % 2), student);
        }
        CHECKS.throwsState(x, "a ninth student", () -> x.addStudent(1));
        CHECKS.throwsIndex(x, "a ninth student of no cohort", () -> x.addStudent(2));
        x.addLesson(0, 0);
        x.addExercise(0, 1, 0, 0);
        x.addCase(0, 1, 1);
        CHECKS.due("a student of the cohort 0", x.reason(6, 0), '-');
        CHECKS.due("a student of the cohort 1", x.reason(7, 0), 'd');
    }

    private static void addLesson() {
        CourseForge x = new CourseForge();
        CHECKS.throwsArgument(x, "addLesson(1, 0), which needs itself", () -> x.addLesson(1, 0));
        CHECKS.throwsArgument(x, "addLesson(-1, 0)", () -> x.addLesson(-1, 0));
        CHECKS.throwsArgument(x, "addLesson(least, 0)", () -> x.addLesson(LEAST, 0));
        CHECKS.throwsArgument(x, "addLesson(0, -1)", () -> x.addLesson(0, -1));
        CHECKS.throwsArgument(x, "addLesson(0, 10)", () -> x.addLesson(0, 10));
        CHECKS.due("addLesson(0, 9)", x.addLesson(0, 9), 0);
        CHECKS.due("addLesson(1, 0)", x.addLesson(1, 0), 1);
        CHECKS.throwsArgument(x, "addLesson(4, 0), which needs itself", () -> x.addLesson(4, 0));
        CHECKS.due("addLesson(3, 0)", x.addLesson(3, 0), 2);
        CHECKS.due("addLesson(5, 0)", x.addLesson(5, 0), 3);
        for (int lesson = 4; lesson < 8; lesson++) {
            CHECKS.due("addLesson, the number " + lesson, x.addLesson((1 << lesson) - 1, 1), lesson);
        }
        CHECKS.throwsState(x, "a ninth lesson", () -> x.addLesson(255, 9));
        CHECKS.throwsArgument(x, "a ninth lesson that needs itself", () -> x.addLesson(256, 9));
        CHECKS.throwsArgument(x, "a ninth lesson that needs number 31", () -> x.addLesson(LEAST, 9));
        CHECKS.throwsArgument(x, "a ninth lesson with decay 10", () -> x.addLesson(0, 10));
    }

    private static void addExercise() {
        CourseForge x = new CourseForge();
        CHECKS.throwsIndex(x, "addExercise without lessons", () -> x.addExercise(0, 0, 0, 0));
        x.addLesson(0, 0);
        CHECKS.throwsIndex(x, "addExercise(-1, ..)", () -> x.addExercise(-1, 0, 0, 0));
        CHECKS.throwsIndex(x, "addExercise(1, 10, 100, 3)", () -> x.addExercise(1, 10, 100, 3));
        CHECKS.throwsIndex(x, "addExercise(most, ..)", () -> x.addExercise(MOST, 0, 0, 0));
        CHECKS.throwsArgument(x, "addExercise, factor -10", () -> x.addExercise(0, -10, 0, 0));
        CHECKS.throwsArgument(x, "addExercise, factor 10", () -> x.addExercise(0, 10, 0, 0));
        CHECKS.throwsArgument(x, "addExercise, factor least", () -> x.addExercise(0, LEAST, 0, 0));
        CHECKS.throwsArgument(x, "addExercise, addend -100", () -> x.addExercise(0, 0, -100, 0));
        CHECKS.throwsArgument(x, "addExercise, addend 100", () -> x.addExercise(0, 0, 100, 0));
        CHECKS.throwsArgument(x, "addExercise, grader -1", () -> x.addExercise(0, 0, 0, -1));
        CHECKS.throwsArgument(x, "addExercise, grader 3", () -> x.addExercise(0, 0, 0, 3));
        CHECKS.due("addExercise(0, -9, -99, 0)", x.addExercise(0, -9, -99, 0), 0);
        CHECKS.due("addExercise(0, 9, 99, 2)", x.addExercise(0, 9, 99, 2), 1);
        for (int exercise = 2; exercise < 12; exercise++) {
            CHECKS.due("addExercise, the number " + exercise, x.addExercise(0, 0, 0, 1), exercise);
        }
        CHECKS.throwsState(x, "a thirteenth exercise", () -> x.addExercise(0, 0, 0, 0));
        CHECKS.throwsIndex(x, "a thirteenth one to no lesson", () -> x.addExercise(1, 0, 0, 0));
        CHECKS.throwsArgument(x, "a thirteenth one, grader 3", () -> x.addExercise(0, 0, 0, 3));
        x.addCohort(0, 0);
        x.addStudent(0);
        CHECKS.due("an exercise has no cases at first", x.reason(0, 11), 'c');
        CHECKS.due("an exercise belongs to its lesson", x.mastery(0, 0), 0);
    }

    private static void addCase() {
        CourseForge x = new CourseForge();
        x.addLesson(0, 0);
        x.addExercise(0, 1, 0, 0);
        x.addExercise(0, 1, 0, 0);
        CHECKS.throwsIndex(x, "addCase(-1, ..)", () -> x.addCase(-1, 0, 1));
        CHECKS.throwsIndex(x, "addCase(2, 100, 0)", () -> x.addCase(2, 100, 0));
        CHECKS.throwsArgument(x, "addCase, input -1", () -> x.addCase(0, -1, 1));
        CHECKS.throwsArgument(x, "addCase, input 100", () -> x.addCase(0, 100, 1));
        CHECKS.throwsArgument(x, "addCase, weight 0", () -> x.addCase(0, 0, 0));
        CHECKS.throwsArgument(x, "addCase, weight 10", () -> x.addCase(0, 0, 10));
        CHECKS.throwsArgument(x, "addCase, weight least", () -> x.addCase(0, 0, LEAST));
        CHECKS.due("addCase(0, 0, 1)", x.addCase(0, 0, 1), 1);
        CHECKS.due("addCase(0, 99, 9)", x.addCase(0, 99, 9), 2);
        CHECKS.due("addCase(1, 5, 5)", x.addCase(1, 5, 5), 1);
        for (int count = 3; count <= 6; count++) {
            CHECKS.due("addCase, the count " + count, x.addCase(0, 0, 1), count);
        }
        CHECKS.throwsState(x, "a seventh case", () -> x.addCase(0, 0, 1));
        CHECKS.throwsIndex(x, "a seventh case of no exercise", () -> x.addCase(2, 0, 1));
        CHECKS.throwsArgument(x, "a seventh case, weight 0", () -> x.addCase(0, 0, 0));
        CHECKS.due("the cases of another exercise", x.addCase(1, 5, 5), 2);
    }

    private static void addCaseAfterAnswers() {
        CourseForge x = new CourseForge();
        x.addCohort(0, 0);
        x.addStudent(0);
        x.addLesson(0, 0);
        x.addExercise(0, 1, 0, 0);
        x.addExercise(0, 1, 0, 0);
        x.addCase(0, 1, 3);
        x.addCase(1, 1, 3);
        x.answer(0, 0, 1, 0);
        CHECKS.throwsState(x, "addCase with an answer", () -> x.addCase(0, 2, 1));
        CHECKS.throwsArgument(x, "addCase with an answer, input 100", () -> x.addCase(0, 100, 1));
        x.mend(0, 2, 0);
        CHECKS.throwsState(x, "addCase with an answer, mended", () -> x.addCase(0, 2, 1));
        CHECKS.due("addCase without an answer", x.addCase(1, 2, 1), 2);
    }

    private static void versionOf() {
        CourseForge x = new CourseForge();
        x.addLesson(0, 0);
        x.addLesson(0, 0);
        x.addExercise(0, 1, 0, 0);
        x.addExercise(0, 1, 0, 0);
        x.addExercise(1, 1, 0, 0);
        CHECKS.due("versionOf before a mend", x.versionOf(0), 0);
        x.mend(0, 2, 0);
        CHECKS.due("versionOf after a mend", x.versionOf(0), 1);
        x.mend(1, 1, 1);
        x.mend(0, 1, 0);
        CHECKS.throwsState(x, "a mend to the same rule", () -> x.mend(0, 1, 0));
        CHECKS.due("versionOf after mends of two exercises", x.versionOf(0), 3);
        CHECKS.due("versionOf of another lesson", x.versionOf(1), 0);
        CHECKS.throwsIndex(x, "versionOf(-1)", () -> x.versionOf(-1));
        CHECKS.throwsIndex(x, "versionOf(2)", () -> x.versionOf(2));
    }

    private static void openLessons() {
        CourseForge x = new CourseForge();
        x.addCohort(5, 5);
        x.addStudent(0);
        CHECKS.due("openLessons without lessons", x.openLessons(0), 0);
        x.addLesson(0, 1);
        x.addLesson(1, 0);
        x.addLesson(2, 0);
        x.addLesson(3, 0);
        CHECKS.due("openLessons without exercises, before the cohort's days", x.openLessons(0), 4);
        x.addExercise(0, 1, 0, 0);
        x.addCase(0, 3, 1);
        x.addCase(0, 0, 1);
        CHECKS.due("openLessons, two need what has no answer", x.openLessons(0), 2);
        x.pass(5);
        x.answer(0, 0, 0, 3);
        CHECKS.due("openLessons at mastery 50", x.openLessons(0), 4);
        x.addExercise(1, 1, 0, 0);
        CHECKS.due("openLessons, two need another", x.openLessons(0), 2);
        x.addCase(1, 1, 1);
        x.answer(0, 1, 1, 0);
        CHECKS.due("openLessons with both", x.openLessons(0), 4);
        x.pass(1);
        CHECKS.due("openLessons at mastery 49", x.openLessons(0), 2);
        CHECKS.throwsIndex(x, "openLessons(-1)", () -> x.openLessons(-1));
        CHECKS.throwsIndex(x, "openLessons(1)", () -> x.openLessons(1));
    }
}
