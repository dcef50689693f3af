/**
 * "A method that throws an exception changes nothing": each refused call of each promise, on benches on
 * which so much has been done that a change of anything shows.
 */
public final class RefusalsTest {
    private static final Scripts SCRIPTS = new Scripts();

    /** Answers, points, appeals, mends, certificates, a line, and room for more of all. */
    private static final String MUCH = """
            addCohort 0 9
            addCohort 0 999
            2 x addStudent #
            addLesson 0 2
            addLesson 1 0
            addLesson 2 0
            addExercise 0 1 0 0
            addExercise 1 1 0 1
            addExercise 1 1 0 0
            addExercise 2 1 0 0
            addCase 0 0 1
            addCase 0 8 1
            addCase 1 3 5
            addCase 3 1 1
            addCourse 1 50
            addCourse 2 30
            answer 0 0 1 0
            answer 1 0 0 0
            answer 0 1 1 0
            answer 1 1 1 1
            answer 0 0 9 9
            issue 0 0 = 0
            issue 0 1 = 1
            issue 1 0 = 2
            appeal 4
            appeal 3
            appeal 2
            appeal 0
            decide 7 = 4
            mend 0 1 8 = 3
            answer 1 0 1 8
            issue 1 0 = 3
            appeal 5
            decide 5 = 3
            appeal 0
            withdraw 0
            pass 12
            writeAnswer 3
            """;

    /** The most cohorts, students, lessons, exercises, cases, answers, courses and certificates. */
    private static final String FULL = """
            4 x addCohort 0 999
            4 x addStudent #
            4 x addStudent #
            8 x addLesson 0 1
            8 x addExercise # 1 0 0
            4 x addExercise # 1 0 0
            11 x addCase # 3 1
            6 x addCase 11 # 1
            4 x addCourse 1 50
            8 x answer # 0 1 0
            92 x answer 0 1 1 0
            8 x issue # 0
            8 x issue # 1
            8 x issue # 2
            6 x issue # 3
            4 x appeal #
            decide 5 = 0
            mend 0 2 0 = 8
            appeal 9
            writeAnswer 8
            """;

    public static void main(String[] args) {
        state();
        cohortsToExercises();
        answersAndGrades();
        masteryAndAppeals();
        mendsAndCertificates();
        daysAndLine();
        limits();
        SCRIPTS.finish("RefusalsTest");
    }

    /** What the calls below are refused for. */
    private static void state() {
        SCRIPTS.due(1, "the bench on which much has been done", MUCH + """
                appeals = 2 5
                harmed = 0 1 4
                line = answer 3: 45 failed by 5
                revoked = 2
                reason 0 0 = d
                reason 1 2 = c
                reason 1 3 = p
                mastery 1 0 = 76
                """);
        SCRIPTS.due(1, "the bench that is full", FULL + """
                answerCount = 100
                revoked = 30
                appeals = 9
                harmedCount = 8
                line = answer 8: 100 passed
                """);
    }

    private static void refused(int promise, String exception, String... calls) {
        for (String call : calls) {
            SCRIPTS.due(promise, "a refusal where much has been done", MUCH + call + " throws " + exception);
        }
    }

    private static void cohortsToExercises() {
        refused(2, "IllegalArgumentException", "addCohort -1 5", "addCohort 5 4", "addCohort 5 1000");
        refused(3, "IndexOutOfBoundsException", "addStudent -1", "addStudent 2");
        refused(4, "IllegalArgumentException", "addLesson 8 0", "addLesson -1 0", "addLesson 0 -1", "addLesson 0 10");
        refused(5, "IndexOutOfBoundsException", "addExercise -1 0 0 0", "addExercise 3 0 0 0");
        refused(5, "IllegalArgumentException", "addExercise 0 10 0 0", "addExercise 0 0 100 0", "addExercise 0 0 0 3");
        refused(6, "IndexOutOfBoundsException", "addCase -1 0 1", "addCase 4 0 1");
        refused(6, "IllegalArgumentException", "addCase 2 100 1", "addCase 2 -1 1", "addCase 2 0 0", "addCase 2 0 10");
        refused(6, "IllegalStateException", "addCase 0 0 1");
        refused(7, "IndexOutOfBoundsException", "versionOf -1", "versionOf 3");
        refused(8, "IndexOutOfBoundsException", "openLessons -1", "openLessons 2");
    }

    private static void answersAndGrades() {
        refused(9, "IndexOutOfBoundsException", "reason 2 0", "reason 0 4");
        refused(10, "IndexOutOfBoundsException", "answer 2 0 1 0", "answer 1 4 1 0");
        refused(10, "IllegalArgumentException", "answer 1 0 10 0", "answer 1 0 0 100");
        refused(10, "UnsupportedOperationException", "answer 0 0 1 0", "answer 1 2 1 0", "answer 1 3 1 0");
        refused(12, "IndexOutOfBoundsException", "gradeOf -1", "gradeOf 6");
        refused(13, "IndexOutOfBoundsException", "gradeAnew -1", "gradeAnew 6");
        refused(14, "IndexOutOfBoundsException", "creditOf -1 0", "creditOf 6 0");
        refused(14, "NoSuchElementException", "creditOf 0 -1", "creditOf 0 2");
        refused(15, "IndexOutOfBoundsException", "studentOf -1", "studentOf 6");
        refused(16, "IndexOutOfBoundsException", "dayOf -1", "dayOf 6");
        refused(17, "IndexOutOfBoundsException", "bestAnswer 2 0", "bestAnswer 0 4");
        refused(17, "NoSuchElementException", "bestAnswer 0 2");
    }

    private static void masteryAndAppeals() {
        refused(18, "IndexOutOfBoundsException", "mastery 2 0", "mastery 0 3");
        refused(19, "IndexOutOfBoundsException", "masteryAnew 2 0", "masteryAnew 0 3");
        refused(20, "IndexOutOfBoundsException", "appeal -1", "appeal 6");
        refused(20, "IllegalStateException", "appeal 2", "appeal 3");
        refused(21, "IndexOutOfBoundsException", "withdraw -1", "withdraw 6");
        refused(21, "NoSuchElementException", "withdraw 0", "withdraw 3");
        refused(22, "IllegalArgumentException", "decide -1", "decide 101");
        refused(24, "IndexOutOfBoundsException", "appealAt -1", "appealAt 2");
        SCRIPTS.due(22, "a refusal where no appeal is waiting", MUCH + """
                decide 1 = 2
                decide 1 = 5
                decide 1 throws NoSuchElementException
                """);
    }

    private static void mendsAndCertificates() {
        refused(25, "IndexOutOfBoundsException", "mend -1 0 0", "mend 4 0 0");
        refused(25, "IllegalArgumentException", "mend 0 10 0", "mend 0 0 100");
        refused(25, "IllegalStateException", "mend 0 1 8");
        refused(27, "IndexOutOfBoundsException", "harmedAt -1", "harmedAt 3");
        refused(28, "IllegalArgumentException", "addCourse 0 50", "addCourse 8 50", "addCourse 1 0", "addCourse 1 101");
        refused(29, "IndexOutOfBoundsException", "issue 2 0", "issue 0 2");
        refused(29, "IllegalStateException", "issue 1 0");
        refused(29, "UnsupportedOperationException", "issue 0 0", "issue 1 1");
        refused(30, "IndexOutOfBoundsException", "doesStand -1", "doesStand 4");
        refused(31, "IndexOutOfBoundsException", "certificateOf 2 0", "certificateOf 0 2");
        refused(31, "NoSuchElementException", "certificateOf 0 0");
    }

    private static void daysAndLine() {
        refused(33, "IllegalArgumentException", "pass 0", "pass 100");
        refused(38, "IndexOutOfBoundsException", "writeAnswer -1", "writeAnswer 6");
        refused(39, "IndexOutOfBoundsException", "lineAt -1", "lineAt 24");
        SCRIPTS.due(33, "a refusal near the last day", MUCH + """
                9 x pass 99
                pass 90 = 993
                pass 7 throws IllegalStateException
                """);
        String early = """
                addCohort 0 999
                addStudent 0
                addLesson 0 0
                addExercise 0 1 0 0
                addCase 0 1 1
                addCourse 1 50
                mend 0 2 0
                """;
        SCRIPTS.due(35, "a refusal without answers", early + """
                addLesson 0 0
                addCourse 2 50
                issue 0 1
                meanGrade throws ArithmeticException
                """);
        SCRIPTS.due(36, "a refusal without certificates", early + """
                3 x answer 0 0 1 0
                mend 0 2 1
                appeal 2
                appeal 1
                decide 9 = 2
                writeAnswer 2
                standingShare throws ArithmeticException
                """);
    }

    private static void fullRefuses(int promise, String call) {
        SCRIPTS.due(promise, "a refusal of a full bench", FULL + call + " throws IllegalStateException");
    }

    private static void limits() {
        fullRefuses(2, "addCohort 0 9");
        fullRefuses(3, "addStudent 0");
        fullRefuses(4, "addLesson 0 0");
        fullRefuses(5, "addExercise 0 1 0 0");
        fullRefuses(6, "addCase 11 1 1");
        fullRefuses(10, "answer 7 0 1 0");
        fullRefuses(28, "addCourse 1 50");
        fullRefuses(29, "issue 0 0");
    }
}
