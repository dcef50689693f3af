/** Promises 18 to 24: mastery and appeals. */
public final class AppealsTest {
    private static final Checks CHECKS = new Checks();
    private static final int LEAST = Integer.MIN_VALUE;
    private static final int MOST = Integer.MAX_VALUE;

    public static void main(String[] args) {
        mastery();
        masteryDecays();
        masteryErrors();
        appeal();
        withdraw();
        decide();
        appealsMeetMends();
        CHECKS.finish("AppealsTest");
    }

    /** Two students, a lesson with decay 4, two exercises with cases of the inputs 1, 2 and 3. */
    private static CourseForge bench() {
        CourseForge x = new CourseForge();
        x.addCohort(0, 99);
        x.addStudent(0);
        x.addStudent(0);
        x.addLesson(0, 4);
        for (int exercise = 0; exercise < 2; exercise++) {
            x.addExercise(0, 1, 0, 0);
            x.addCase(exercise, 1, 1);
            x.addCase(exercise, 2, 1);
            x.addCase(exercise, 3, 1);
        }
        return x;
    }

    private static void dueMastery(CourseForge x, String when, int student, int lesson, int want) {
        CHECKS.due("mastery " + when, x.mastery(student, lesson), want);
        CHECKS.due("masteryAnew " + when, x.masteryAnew(student, lesson), want);
    }

    private static void mastery() {
        CourseForge x = bench();
        x.addLesson(0, 0);
        dueMastery(x, "without exercises", 0, 1, 100);
        dueMastery(x, "without answers", 0, 0, 0);
        x.answer(0, 0, 0, 1);
        dueMastery(x, "33 and none", 0, 0, 16);
        x.answer(0, 0, 0, 1);
        dueMastery(x, "33, 33 and none", 0, 0, 16);
        x.answer(0, 1, 1, 0);
        dueMastery(x, "33 and 100", 0, 0, 66);
        dueMastery(x, "of another student", 1, 0, 0);
        dueMastery(x, "of another lesson", 0, 1, 100);
        x.answer(0, 0, 1, 0);
        dueMastery(x, "100 and 100", 0, 0, 100);
        x.addExercise(0, 1, 0, 0);
        dueMastery(x, "100, 100 and none", 0, 0, 66);
        x.mend(0, 0, 1);
        dueMastery(x, "100, 100 and none, mended", 0, 0, 66);
        x.mend(1, 2, 0);
        dueMastery(x, "100, 0 and none", 0, 0, 33);
        x.appeal(2);
        x.decide(40);
        dueMastery(x, "100, 40 and none", 0, 0, 46);
    }

    private static void masteryDecays() {
        CourseForge x = bench();
        x.answer(0, 0, 1, 0);
        x.answer(0, 1, 1, 0);
        x.pass(1);
        dueMastery(x, "of a day later", 0, 0, 96);
        x.answer(0, 1, 1, 0);
        dueMastery(x, "96 and 100", 0, 0, 98);
        x.pass(23);
        dueMastery(x, "4 and 8", 0, 0, 6);
        x.pass(1);
        dueMastery(x, "0 and 4", 0, 0, 2);
        x.pass(1);
        dueMastery(x, "0 and 0", 0, 0, 0);
        x.answer(0, 0, 0, 1);
        x.appeal(3);
        x.decide(7);
        x.pass(2);
        dueMastery(x, "40 less 8 and 0", 0, 0, 16);
    }

    private static void masteryErrors() {
        CourseForge x = bench();
        CHECKS.throwsIndex(x, "mastery(-1, 0)", () -> x.mastery(-1, 0));
        CHECKS.throwsIndex(x, "mastery(2, 0)", () -> x.mastery(2, 0));
        CHECKS.throwsIndex(x, "mastery(0, -1)", () -> x.mastery(0, -1));
        CHECKS.throwsIndex(x, "mastery(0, 1)", () -> x.mastery(0, 1));
        CHECKS.throwsIndex(x, "masteryAnew(least, 0)", () -> x.masteryAnew(LEAST, 0));
        CHECKS.throwsIndex(x, "masteryAnew(2, 0)", () -> x.masteryAnew(2, 0));
        CHECKS.throwsIndex(x, "masteryAnew(0, -1)", () -> x.masteryAnew(0, -1));
        CHECKS.throwsIndex(x, "masteryAnew(0, 1)", () -> x.masteryAnew(0, 1));
    }

    private static void appeal() {
        CourseForge x = bench();
        CHECKS.throwsIndex(x, "appeal without answers", () -> x.appeal(0));
        x.answer(0, 0, 0, 1);
        x.answer(1, 0, 0, 1);
        x.answer(0, 1, 0, 1);
        CHECKS.throwsIndex(x, "appeal(-1)", () -> x.appeal(-1));
        CHECKS.throwsIndex(x, "appeal(3)", () -> x.appeal(3));
        CHECKS.throwsIndex(x, "appealAt(0) of none", () -> x.appealAt(0));
        CHECKS.due("appealCount at first", x.appealCount(), 0);
        CHECKS.due("appeal(2)", x.appeal(2), 1);
        CHECKS.due("appeal(0)", x.appeal(0), 2);
        CHECKS.due("appealCount", x.appealCount(), 2);
        CHECKS.due("appealAt(0)", x.appealAt(0), 2);
        CHECKS.due("appealAt(1)", x.appealAt(1), 0);
        CHECKS.throwsIndex(x, "appealAt(2)", () -> x.appealAt(2));
        CHECKS.throwsIndex(x, "appealAt(-1)", () -> x.appealAt(-1));
        CHECKS.throwsIndex(x, "appealAt(most)", () -> x.appealAt(MOST));
        CHECKS.throwsState(x, "appeal that is waiting", () -> x.appeal(2));
        x.decide(0);
        CHECKS.throwsState(x, "appeal that was decided with 0 points", () -> x.appeal(2));
        CHECKS.due("appeal(1)", x.appeal(1), 2);
    }

    private static void withdraw() {
        CourseForge x = bench();
        CHECKS.throwsIndex(x, "withdraw without answers", () -> x.withdraw(0));
        for (int i = 0; i < 4; i++) {
            x.answer(0, 0, 0, 1);
            x.appeal(i);
        }
        CHECKS.throwsIndex(x, "withdraw(-1)", () -> x.withdraw(-1));
        CHECKS.throwsIndex(x, "withdraw(4)", () -> x.withdraw(4));
        CHECKS.due("withdraw(1)", x.withdraw(1), 3);
        CHECKS.due("appeals behind it move up", Checks.appeals(x), "0 2 3 ");
        CHECKS.throwsElement(x, "withdraw(1) again", () -> x.withdraw(1));
        CHECKS.due("an appeal again, at the end", x.appeal(1), 4);
        CHECKS.due("the order now", Checks.appeals(x), "0 2 3 1 ");
        x.decide(3);
        CHECKS.throwsElement(x, "withdraw what was decided", () -> x.withdraw(0));
        CHECKS.due("withdraw the first", x.withdraw(2), 2);
        CHECKS.due("withdraw the last", x.withdraw(1), 1);
        CHECKS.due("withdraw the only one", x.withdraw(3), 0);
        CHECKS.due("no points by it", x.gradeOf(3), 33);
    }

    private static void decide() {
        CourseForge x = bench();
        CHECKS.throwsElement(x, "decide(0) of none", () -> x.decide(0));
        CHECKS.throwsArgument(x, "decide(-1) of none", () -> x.decide(-1));
        CHECKS.throwsArgument(x, "decide(101) of none", () -> x.decide(101));
        x.answer(0, 0, 0, 1);
        x.answer(1, 0, 0, 9);
        x.answer(0, 1, 0, 1);
        x.appeal(1);
        x.appeal(2);
        x.appeal(0);
        CHECKS.throwsArgument(x, "decide(-1)", () -> x.decide(-1));
        CHECKS.throwsArgument(x, "decide(101)", () -> x.decide(101));
        CHECKS.due("decide(50)", x.decide(50), 1);
        CHECKS.due("the grade of the first", x.gradeOf(1), 50);
        CHECKS.due("the grade of the next", x.gradeOf(2), 33);
        CHECKS.due("appealCount", x.appealCount(), 2);
        CHECKS.due("decide(0)", x.decide(0), 2);
        CHECKS.due("the grade by 0 points", x.gradeOf(2), 33);
        CHECKS.due("decide(100)", x.decide(100), 0);
        CHECKS.due("the grade by 100 points", x.gradeOf(0), 100);
        CHECKS.throwsElement(x, "decide(0) of no more", () -> x.decide(0));
        CHECKS.due("the points of the first", Checks.written(x, 1), "25:answer 1: 50 passed by 50");
    }

    private static void appealsMeetMends() {
        CourseForge x = bench();
        for (int i = 0; i < 6; i++) {
            x.answer(0, i % 2, 0, 1);
        }
        x.appeal(4);
        x.decide(10);
        x.appeal(5);
        x.appeal(2);
        x.appeal(0);
        x.appeal(3);
        x.mend(0, 0, 2);
        CHECKS.due("appeals of another exercise wait on", Checks.appeals(x), "5 3 ");
        CHECKS.due("points are gone", x.gradeOf(4), 0);
        CHECKS.throwsElement(x, "withdraw what a mend dropped", () -> x.withdraw(2));
        CHECKS.due("appeal again after a mend", x.appeal(2), 3);
        CHECKS.due("appeal what was decided before the mend", x.appeal(4), 4);
        CHECKS.throwsState(x, "appeal that waits on", () -> x.appeal(5));
        CHECKS.due("the order now", Checks.appeals(x), "5 3 2 4 ");
        CHECKS.due("decide the first", x.decide(5), 5);
        x.mend(0, 0, 1);
        CHECKS.throwsState(x, "decided, but another exercise was mended", () -> x.appeal(5));
        CHECKS.due("points of another exercise stay", x.gradeOf(5), 38);
    }
}
