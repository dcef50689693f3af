/** Promises 33 to 39: days, figures and the line. */
public final class FiguresTest {
    private static final Checks CHECKS = new Checks();
    private static final int LEAST = Integer.MIN_VALUE;
    private static final int MOST = Integer.MAX_VALUE;

    public static void main(String[] args) {
        pass();
        meanGrade();
        standingShare();
        isConsistent();
        writeAnswer();
        lineAt();
        CHECKS.finish("FiguresTest");
    }

    /** A student, a lesson with decay 1, an exercise x + 0 with cases of the weights 1, 2 and 4. */
    private static CourseForge bench() {
        CourseForge x = new CourseForge();
        x.addCohort(0, 999);
        x.addStudent(0);
        x.addLesson(0, 1);
        x.addExercise(0, 1, 0, 0);
        x.addCase(0, 1, 1);
        x.addCase(0, 2, 2);
        x.addCase(0, 3, 4);
        return x;
    }

    private static void pass() {
        CourseForge x = new CourseForge();
        CHECKS.throwsArgument(x, "pass(0)", () -> x.pass(0));
        CHECKS.throwsArgument(x, "pass(-1)", () -> x.pass(-1));
        CHECKS.throwsArgument(x, "pass(100)", () -> x.pass(100));
        CHECKS.throwsArgument(x, "pass(most)", () -> x.pass(MOST));
        CHECKS.throwsArgument(x, "pass(least)", () -> x.pass(LEAST));
        CHECKS.due("today at first", x.today(), 0);
        CHECKS.due("pass(1)", x.pass(1), 1);
        for (int i = 1; i <= 10; i++) {
            CHECKS.due("pass(99)", x.pass(99), 1 + 99 * i);
            CHECKS.due("today", x.today(), 1 + 99 * i);
        }
        CHECKS.throwsState(x, "pass(9) from 991", () -> x.pass(9));
        CHECKS.throwsState(x, "pass(99) from 991", () -> x.pass(99));
        CHECKS.throwsArgument(x, "pass(100) from 991", () -> x.pass(100));
        CHECKS.due("pass(8) from 991", x.pass(8), 999);
        CHECKS.throwsState(x, "pass(1) from 999", () -> x.pass(1));
        CHECKS.throwsArgument(x, "pass(0) from 999", () -> x.pass(0));
        CHECKS.due("today at last", x.today(), 999);
    }

    private static void meanGrade() {
        CourseForge x = bench();
        CHECKS.dueThrow(x, "meanGrade of none", ArithmeticException.class, () -> x.meanGrade());
        x.answer(0, 0, 0, 1);
        CHECKS.due("meanGrade of 14", x.meanGrade(), 14.0);
        x.answer(0, 0, 0, 2);
        CHECKS.due("meanGrade of 14 and 28", x.meanGrade(), 21.0);
        x.answer(0, 0, 0, 3);
        CHECKS.due("meanGrade of 14, 28 and 57", x.meanGrade(), 33.0);
        x.appeal(0);
        x.decide(1);
        CHECKS.due("meanGrade of 15, 28 and 57", x.meanGrade(), 100.0 / 3.0);
        x.mend(0, 9, 9);
        CHECKS.due("meanGrade of 0, 0 and 0", x.meanGrade(), 0.0);
    }

    private static void standingShare() {
        CourseForge x = bench();
        x.addStudent(0);
        x.addStudent(0);
        x.addCourse(1, 50);
        CHECKS.dueThrow(x, "standingShare of none", ArithmeticException.class, () -> x.standingShare());
        x.answer(0, 0, 1, 0);
        x.answer(1, 0, 0, 3);
        x.answer(2, 0, 1, 0);
        for (int student = 0; student < 3; student++) {
            x.issue(student, 0);
        }
        CHECKS.due("standingShare of 3 of 3", x.standingShare(), 1.0f);
        x.mend(0, 0, 3);
        CHECKS.due("standingShare of 3 of 3, mended", x.standingShare(), 1.0f);
        x.mend(0, 2, -3);
        CHECKS.due("standingShare of 3 of 3 at 57", x.standingShare(), 1.0f);
        x.mend(0, 0, 3);
        x.mend(0, 0, 2);
        CHECKS.due("standingShare of 0 of 3", x.standingShare(), 0.0f);
        x.answer(1, 0, 0, 2);
        x.issue(1, 0);
        CHECKS.due("standingShare of 1 of 4", x.standingShare(), 0.25f);
        x.answer(0, 0, 1, 9);
        x.answer(2, 0, 0, 2);
        x.issue(2, 0);
        x.answer(0, 0, 0, 2);
        x.issue(0, 0);
        CHECKS.due("standingShare of 3 of 6", x.standingShare(), 0.5f);
        x.mend(0, 0, 1);
        x.answer(0, 0, 0, 1);
        x.issue(0, 0);
        CHECKS.due("standingShare of 1 of 7", x.standingShare(), 1.0f / 7.0f);
    }

    private static void isConsistent() {
        CourseForge x = bench();
        x.addStudent(0);
        x.addLesson(1, 9);
        CHECKS.due("isConsistent without answers", x.isConsistent(), true);
        x.answer(0, 0, 0, 3);
        x.answer(1, 0, 1, 0);
        CHECKS.due("isConsistent with answers", x.isConsistent(), true);
        x.appeal(0);
        x.decide(60);
        CHECKS.due("isConsistent with points", x.isConsistent(), true);
        x.pass(7);
        CHECKS.due("isConsistent by days", x.isConsistent(), true);
        x.addExercise(0, 2, 2, 1);
        CHECKS.due("isConsistent with an exercise more", x.isConsistent(), true);
        x.mend(0, 1, 9);
        CHECKS.due("isConsistent after a mend", x.isConsistent(), true);
        CHECKS.due("gradeAnew after a mend", x.gradeAnew(0), x.gradeOf(0));
        CHECKS.due("masteryAnew after a mend", x.masteryAnew(0, 0), x.mastery(0, 0));
    }

    private static void writeAnswer() {
        CourseForge x = bench();
        CHECKS.throwsIndex(x, "writeAnswer(0) of none", () -> x.writeAnswer(0));
        x.answer(0, 0, 0, 3);
        x.answer(0, 0, 0, 2);
        x.answer(0, 0, 1, 0);
        x.answer(0, 0, 0, 9);
        CHECKS.due("a pass", Checks.written(x, 0), "19:answer 0: 57 passed");
        CHECKS.due("a failure", Checks.written(x, 1), "19:answer 1: 28 failed");
        CHECKS.due("a full grade", Checks.written(x, 2), "20:answer 2: 100 passed");
        CHECKS.due("a grade 0, shorter than the line before", Checks.written(x, 3), "18:answer 3: 0 failed");
        x.appeal(1);
        x.appeal(0);
        x.appeal(3);
        CHECKS.due("an appeal that waits", Checks.written(x, 1), "19:answer 1: 28 failed");
        x.decide(22);
        CHECKS.due("a pass at 50 by points", Checks.written(x, 1), "25:answer 1: 50 passed by 22");
        x.decide(100);
        CHECKS.due("more points than count", Checks.written(x, 0), "27:answer 0: 100 passed by 100");
        x.decide(0);
        CHECKS.due("0 points", Checks.written(x, 3), "18:answer 3: 0 failed");
        x.mend(0, 0, 2);
        x.appeal(3);
        x.decide(49);
        CHECKS.due("a failure at 49 by points", Checks.written(x, 3), "25:answer 3: 49 failed by 49");
        x.appeal(0);
        x.decide(1);
        CHECKS.due("1 point", Checks.written(x, 0), "23:answer 0: 1 failed by 1");
        for (int i = 4; i <= 10; i++) {
            x.answer(0, 0, 9, 9);
        }
        CHECKS.due("a number of two digits", Checks.written(x, 10), "19:answer 10: 0 failed");
        CHECKS.throwsIndex(x, "writeAnswer(-1)", () -> x.writeAnswer(-1));
        CHECKS.throwsIndex(x, "writeAnswer(11)", () -> x.writeAnswer(11));
        x.mend(0, 9, 9);
        CHECKS.due("the line stays until the next", Checks.line(x), "answer 10: 0 failed");
    }

    private static void lineAt() {
        CourseForge x = bench();
        CHECKS.throwsIndex(x, "lineAt(0) of an empty line", () -> x.lineAt(0));
        x.answer(0, 0, 0, 3);
        x.answer(0, 0, 9, 9);
        x.writeAnswer(0);
        CHECKS.due("lineAt(0)", x.lineAt(0), 'a');
        CHECKS.due("lineAt(6)", x.lineAt(6), ' ');
        CHECKS.due("lineAt(18)", x.lineAt(18), 'd');
        CHECKS.throwsIndex(x, "lineAt(19)", () -> x.lineAt(19));
        CHECKS.throwsIndex(x, "lineAt(-1)", () -> x.lineAt(-1));
        CHECKS.throwsIndex(x, "lineAt(most)", () -> x.lineAt(MOST));
        CHECKS.throwsIndex(x, "lineAt(least)", () -> x.lineAt(LEAST));
        x.writeAnswer(1);
        CHECKS.throwsIndex(x, "lineAt(18) of a shorter line", () -> x.lineAt(18));
        CHECKS.due("lineAt(17) of a shorter line", x.lineAt(17), 'd');
    }
}
