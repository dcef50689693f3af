/** Promises 25 to 32: mends, courses and certificates. */
public final class CertificatesTest {
    private static final Checks CHECKS = new Checks();
    private static final int LEAST = Integer.MIN_VALUE;

    public static void main(String[] args) {
        mend();
        mendErrors();
        harmedInOrder();
        addCourse();
        issue();
        issueManyCertificates();
        certificateOf();
        revokedByGrades();
        revokedOnTheDayOfIssue();
        onlyWhatThereWasCounts();
        eachCertificateIsLookedAt();
        CHECKS.finish("CertificatesTest");
    }

    /** Two students, lessons with the decays 5 and 0, an exercise each, x + 0, with two cases. */
    private static CourseForge bench() {
        CourseForge x = new CourseForge();
        x.addCohort(0, 99);
        x.addStudent(0);
        x.addStudent(0);
        for (int i = 0; i < 2; i++) {
            x.addLesson(0, i == 0 ? 5 : 0);
            x.addExercise(i, 1, 0, 0);
            x.addCase(i, 0, 1);
            x.addCase(i, 8, 1);
        }
        return x;
    }

    private static void mend() {
        CourseForge x = bench();
        CHECKS.due("harmedCount before a mend", x.harmedCount(), 0);
        CHECKS.due("mend without answers", x.mend(0, 2, 0), 0);
        CHECKS.due("harmedCount without answers", x.harmedCount(), 0);
        x.mend(0, 1, 0);
        x.answer(0, 0, 1, 0);
        x.answer(1, 0, 2, 0);
        x.answer(0, 1, 1, 0);
        x.answer(1, 0, 0, 9);
        CHECKS.due("mend, one falls and one rises", x.mend(0, 2, 0), 2);
        CHECKS.due("the grade that fell", x.gradeOf(0), 50);
        CHECKS.due("the grade that rose", x.gradeOf(1), 100);
        CHECKS.due("the grade of another exercise", x.gradeOf(2), 100);
        CHECKS.due("the grade that stays", x.gradeOf(3), 0);
        CHECKS.due("all are graded anew", Checks.harmed(x), "0 3 1 ");
        CHECKS.due("mend, the addend alone", x.mend(0, 2, 99), 2);
        CHECKS.due("mend, the factor alone", x.mend(0, 9, 99), 0);
        CHECKS.due("all are graded anew, none changes", Checks.harmed(x), "0 1 3 ");
        x.appeal(3);
        x.decide(7);
        CHECKS.due("mend, points fall alone", x.mend(0, -9, -99), 1);
        CHECKS.due("the grade without points", x.gradeOf(3), 0);
        CHECKS.due("points are gone from the line", Checks.written(x, 3), "18:answer 3: 0 failed");
    }

    private static void mendErrors() {
        CourseForge x = bench();
        x.answer(0, 0, 1, 0);
        x.mend(0, 2, 0);
        CHECKS.throwsIndex(x, "mend(-1, ..)", () -> x.mend(-1, 0, 0));
        CHECKS.throwsIndex(x, "mend(2, 10, 100)", () -> x.mend(2, 10, 100));
        CHECKS.throwsArgument(x, "mend, factor -10", () -> x.mend(0, -10, 0));
        CHECKS.throwsArgument(x, "mend, factor 10", () -> x.mend(0, 10, 0));
        CHECKS.throwsArgument(x, "mend, addend -100", () -> x.mend(0, 0, -100));
        CHECKS.throwsArgument(x, "mend, addend 100", () -> x.mend(0, 0, 100));
        CHECKS.throwsArgument(x, "mend, factor least", () -> x.mend(0, LEAST, 0));
        CHECKS.throwsState(x, "mend to its rule", () -> x.mend(0, 2, 0));
        CHECKS.due("mend to the rule before", x.mend(0, 1, 0), 1);
        CHECKS.throwsIndex(x, "harmedAt(-1)", () -> x.harmedAt(-1));
        CHECKS.throwsIndex(x, "harmedAt(1)", () -> x.harmedAt(1));
        x.answer(0, 0, 1, 0);
        CHECKS.due("harmedCount is of the latest mend", x.harmedCount(), 1);
        x.mend(1, 0, 0);
        CHECKS.due("harmedCount of a mend without answers", x.harmedCount(), 0);
        CHECKS.throwsIndex(x, "harmedAt(0) of none", () -> x.harmedAt(0));
    }

    private static void harmedInOrder() {
        CourseForge x = new CourseForge();
        x.addCohort(0, 99);
        x.addStudent(0);
        x.addLesson(0, 0);
        x.addExercise(0, 0, 1, 0);
        x.addCase(0, 0, 1);
        x.addCase(0, 1, 2);
        x.addCase(0, 2, 1);
        x.answer(0, 0, 0, 2);
        x.answer(0, 0, 1, 1);
        x.answer(0, 0, 0, 1);
        x.answer(0, 0, 0, 2);
        x.answer(0, 0, 2, 2);
        x.answer(0, 0, 0, 1);
        x.answer(0, 0, -1, 2);
        x.answer(0, 0, -1, 2);
        CHECKS.due("the grade of 6 before", x.gradeOf(6), 50);
        CHECKS.due("the grade of 1 before", x.gradeOf(1), 25);
        x.appeal(7);
        x.decide(30);
        CHECKS.due("mend", x.mend(0, 0, 2), 8);
        CHECKS.due("by harm, points too", Checks.harmed(x), "2 5 7 6 1 4 0 3 ");
        CHECKS.due("harmedAt(2)", x.harmedAt(2), 7);
        CHECKS.due("harmedCount", x.harmedCount(), 8);
    }

    private static void addCourse() {
        CourseForge x = bench();
        CHECKS.throwsArgument(x, "addCourse(0, 50)", () -> x.addCourse(0, 50));
        CHECKS.throwsArgument(x, "addCourse(4, 50)", () -> x.addCourse(4, 50));
        CHECKS.throwsArgument(x, "addCourse(5, 50)", () -> x.addCourse(5, 50));
        CHECKS.throwsArgument(x, "addCourse(-1, 50)", () -> x.addCourse(-1, 50));
        CHECKS.throwsArgument(x, "addCourse(least, 50)", () -> x.addCourse(LEAST, 50));
        CHECKS.throwsArgument(x, "addCourse(1, 0)", () -> x.addCourse(1, 0));
        CHECKS.throwsArgument(x, "addCourse(1, 101)", () -> x.addCourse(1, 101));
        CHECKS.due("addCourse(3, 100)", x.addCourse(3, 100), 0);
        CHECKS.due("addCourse(1, 1)", x.addCourse(1, 1), 1);
        CHECKS.due("addCourse(2, 50)", x.addCourse(2, 50), 2);
        CHECKS.due("addCourse(2, 50) again", x.addCourse(2, 50), 3);
        CHECKS.throwsState(x, "a fifth course", () -> x.addCourse(1, 1));
        CHECKS.throwsArgument(x, "a fifth course without lessons", () -> x.addCourse(0, 1));
        CHECKS.throwsArgument(x, "a fifth course, mastery 101", () -> x.addCourse(1, 101));
    }

    private static void issue() {
        CourseForge x = bench();
        x.addCourse(1, 50);
        x.addCourse(3, 50);
        CHECKS.throwsIndex(x, "issue(-1, 0)", () -> x.issue(-1, 0));
        CHECKS.throwsIndex(x, "issue(2, 0)", () -> x.issue(2, 0));
        CHECKS.throwsIndex(x, "issue(0, -1)", () -> x.issue(0, -1));
        CHECKS.throwsIndex(x, "issue(0, 2)", () -> x.issue(0, 2));
        CHECKS.throwsUnsupported(x, "issue at mastery 0", () -> x.issue(0, 0));
        x.answer(0, 0, 0, 0);
        CHECKS.throwsUnsupported(x, "issue with one lesson of two", () -> x.issue(0, 1));
        CHECKS.due("issue at the mastery that is needed", x.issue(0, 0), 0);
        CHECKS.throwsState(x, "issue what stands", () -> x.issue(0, 0));
        x.pass(1);
        CHECKS.due("the mastery of a day later", x.mastery(0, 0), 45);
        CHECKS.throwsState(x, "issue what stands, without the mastery", () -> x.issue(0, 0));
        x.answer(0, 1, 0, 0);
        CHECKS.throwsUnsupported(x, "issue at 45 and 50", () -> x.issue(0, 1));
        x.answer(0, 0, 1, 0);
        CHECKS.due("issue with both lessons", x.issue(0, 1), 1);
        CHECKS.throwsUnsupported(x, "issue to another student", () -> x.issue(1, 0));
        x.answer(1, 0, 1, 0);
        x.pass(99);
        x.pass(1);
        CHECKS.throwsUnsupported(x, "issue after long", () -> x.issue(1, 0));
    }

    private static void issueManyCertificates() {
        CourseForge x = new CourseForge();
        x.addCohort(0, 0);
        x.addLesson(0, 0);
        x.addLesson(0, 0);
        for (int i = 0; i < 8; i++) {
            x.addStudent(0);
        }
        for (int i = 0; i < 4; i++) {
            x.addCourse(1, 100);
        }
        for (int i = 0; i < 30; i++) {
            CHECKS.due("issue, the number " + i, x.issue(i % 8, i / 8), i);
        }
        CHECKS.due("doesStand(29)", x.doesStand(29), true);
        CHECKS.due("a 31st certificate", Checks.outcome(() -> x.issue(6, 3)), "IllegalStateException");
        x.addExercise(0, 1, 0, 0);
        CHECKS.due("a 31st, without the mastery", Checks.outcome(() -> x.issue(6, 3)), "IllegalStateException");
        CHECKS.due("a 31st of no course", Checks.outcome(() -> x.issue(6, 4)), "IndexOutOfBoundsException");
        CHECKS.due("no certificate 30", Checks.outcome(() -> x.doesStand(30)), "IndexOutOfBoundsException");
        CHECKS.due("the standing share", x.standingShare(), 1.0f);
    }

    private static void certificateOf() {
        CourseForge x = bench();
        x.addCourse(1, 50);
        x.addCourse(2, 50);
        x.answer(1, 0, 1, 0);
        x.answer(1, 1, 1, 0);
        CHECKS.throwsIndex(x, "doesStand(0) of none", () -> x.doesStand(0));
        CHECKS.throwsElement(x, "certificateOf(1, 0) of none", () -> x.certificateOf(1, 0));
        x.issue(1, 1);
        x.issue(1, 0);
        CHECKS.due("certificateOf(1, 0)", x.certificateOf(1, 0), 1);
        CHECKS.due("certificateOf(1, 1)", x.certificateOf(1, 1), 0);
        CHECKS.throwsElement(x, "certificateOf(0, 0)", () -> x.certificateOf(0, 0));
        CHECKS.throwsIndex(x, "certificateOf(-1, 0)", () -> x.certificateOf(-1, 0));
        CHECKS.throwsIndex(x, "certificateOf(2, 0)", () -> x.certificateOf(2, 0));
        CHECKS.throwsIndex(x, "certificateOf(0, -1)", () -> x.certificateOf(0, -1));
        CHECKS.throwsIndex(x, "certificateOf(0, 2)", () -> x.certificateOf(0, 2));
        x.mend(0, 9, 9);
        CHECKS.throwsElement(x, "certificateOf(1, 0), revoked", () -> x.certificateOf(1, 0));
        CHECKS.due("certificateOf(1, 1), not revoked", x.certificateOf(1, 1), 0);
        x.answer(1, 0, 9, 9);
        CHECKS.due("issue anew", x.issue(1, 0), 2);
        CHECKS.due("certificateOf(1, 0), issued anew", x.certificateOf(1, 0), 2);
        CHECKS.throwsIndex(x, "doesStand(-1)", () -> x.doesStand(-1));
        CHECKS.throwsIndex(x, "doesStand(3)", () -> x.doesStand(3));
    }

    private static void revokedByGrades() {
        CourseForge x = bench();
        x.addCourse(3, 51);
        x.answer(0, 0, 0, 0);
        x.answer(0, 1, 1, 0);
        x.appeal(0);
        x.decide(1);
        CHECKS.due("issue at 51", x.issue(0, 0), 0);
        CHECKS.due("revoked at first", x.revoked(), 0);
        x.mend(1, 0, 8);
        CHECKS.due("revoked by the second lesson, 50", x.doesStand(0), false);
        CHECKS.due("revoked", x.revoked(), 1);
        x.mend(1, 1, 0);
        CHECKS.due("revoked for good", x.doesStand(0), false);
        CHECKS.due("revoked for good, counted once", x.revoked(), 1);
        CHECKS.due("issue anew", x.issue(0, 0), 1);
        x.mend(0, 0, 0);
        CHECKS.due("a grade that rises revokes nothing", x.doesStand(1), true);
        x.mend(0, 1, 0);
        CHECKS.due("points that a mend takes revoke", x.doesStand(1), false);
        CHECKS.due("revoked twice", x.revoked(), 2);
    }

    private static void revokedOnTheDayOfIssue() {
        CourseForge x = bench();
        x.addCourse(1, 50);
        x.answer(0, 0, 1, 0);
        x.pass(10);
        CHECKS.due("issue at 100 less 10 times 5", x.issue(0, 0), 0);
        x.pass(50);
        CHECKS.due("the mastery long after", x.mastery(0, 0), 0);
        x.mend(1, 9, 9);
        CHECKS.due("the day of issue counts, not today", x.doesStand(0), true);
        x.mend(0, 1, 99);
        CHECKS.due("no grade is left", x.doesStand(0), false);
        x.answer(0, 0, 1, 99);
        x.pass(9);
        CHECKS.due("issue at 100 less 9 times 5", x.issue(0, 0), 1);
        x.answer(0, 0, 0, 99);
        x.mend(0, 0, 99);
        CHECKS.due("50 less 9 times 5 is not enough", x.doesStand(1), false);
    }

    private static void onlyWhatThereWasCounts() {
        CourseForge x = bench();
        x.addCourse(1, 50);
        x.addCourse(2, 50);
        x.answer(0, 0, 1, 0);
        x.answer(1, 1, 1, 0);
        x.issue(0, 0);
        x.issue(1, 1);
        x.answer(0, 0, 2, 99);
        x.addExercise(1, 5, 5, 0);
        CHECKS.due("the mastery with a later exercise", x.mastery(1, 1), 50);
        x.addExercise(1, 5, 5, 0);
        x.mend(2, 5, 6);
        CHECKS.due("later exercises do not count", x.doesStand(1), true);
        x.mend(0, 2, 99);
        CHECKS.due("the mastery by a later answer", x.mastery(0, 0), 100);
        CHECKS.due("a later answer of the same day does not count", x.doesStand(0), false);
        CHECKS.due("issue by the later answer", x.issue(0, 0), 2);
        x.appeal(0);
        x.decide(100);
        x.mend(1, 0, 8);
        CHECKS.due("50 of 50 is enough", x.doesStand(1), true);
        CHECKS.due("revoked for good, whatever the grades", x.doesStand(0), false);
    }

    private static void eachCertificateIsLookedAt() {
        CourseForge x = bench();
        x.addCourse(1, 100);
        x.addCourse(3, 50);
        x.addCourse(2, 100);
        for (int student = 0; student < 2; student++) {
            x.answer(student, 0, 1, 0);
            x.answer(student, 1, 1, 0);
            x.issue(student, 0);
            x.issue(student, 1);
            x.issue(student, 2);
        }
        x.mend(0, 0, 0);
        CHECKS.due("student 0, the course at 100", x.doesStand(0), false);
        CHECKS.due("student 0, the course at 50", x.doesStand(1), true);
        CHECKS.due("student 0, the course of another lesson", x.doesStand(2), true);
        CHECKS.due("student 1, the course at 100", x.doesStand(3), false);
        CHECKS.due("student 1, the course at 50", x.doesStand(4), true);
        CHECKS.due("student 1, the course of another lesson", x.doesStand(5), true);
        CHECKS.due("two are revoked", x.revoked(), 2);
    }
}
