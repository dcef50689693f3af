/** Promises 33 to 39: days, figures and the line. */
public final class FiguresTest {
    private static final Scripts SCRIPTS = new Scripts();

    /** A student, a lesson with decay 1, an exercise x + 0 with cases of the weights 1, 2 and 4. */
    private static final String BENCH = """
            addCohort 0 999
            addStudent 0
            addLesson 0 1
            addExercise 0 1 0 0
            addCase 0 1 1
            addCase 0 2 2
            addCase 0 3 4
            """;

    /** An answer of the grade 0 with an appeal that is waiting. */
    private static final String APPEALED = BENCH + """
            answer 0 0 9 9
            appeal 0
            """;

    public static void main(String[] args) {
        pass();
        today();
        meanGrade();
        standingShare();
        isConsistent();
        writeAnswer();
        writeGrades();
        writePoints();
        lineAt();
        lineOfLatest();
        SCRIPTS.finish("FiguresTest");
    }

    private static void pass() {
        SCRIPTS.due(33, "the number of days is 1 to 99", """
                pass 0 throws IllegalArgumentException
                pass -1 throws IllegalArgumentException
                pass least throws IllegalArgumentException
                pass 1 = 1
                pass 99 = 100
                pass 100 throws IllegalArgumentException
                pass most throws IllegalArgumentException
                """);
        String nearTheEnd = "10 x pass 99\n";
        SCRIPTS.due(33, "the day is 999 at most", nearTheEnd + """
                pass 10 throws IllegalStateException
                pass 99 throws IllegalStateException
                pass 9 = 999
                pass 1 throws IllegalStateException
                pass 99 throws IllegalStateException
                """);
        SCRIPTS.due(33, "the day before the last one", nearTheEnd + """
                pass 8 = 998
                pass 2 throws IllegalStateException
                pass 1 = 999
                """);
        SCRIPTS.due(33, "a number out of range comes ahead of a day greater than 999", nearTheEnd + """
                pass 9
                pass 100 throws IllegalArgumentException
                pass most throws IllegalArgumentException
                pass 0 throws IllegalArgumentException
                pass -1 throws IllegalArgumentException
                """);
    }

    private static void today() {
        SCRIPTS.due(34, "0 at first, 999 at last, the same after a refusal", """
                today = 0
                pass 100 throws IllegalArgumentException
                today = 0
                10 x pass 99
                today = 990
                pass 10 throws IllegalStateException
                today = 990
                pass 9
                today = 999
                pass 1 throws IllegalStateException
                today = 999
                """);
    }

    private static void meanGrade() {
        SCRIPTS.due(35, "there are no answers", BENCH + """
                meanGrade throws ArithmeticException
                answer 0 0 10 0 throws IllegalArgumentException
                meanGrade throws ArithmeticException
                answer 0 0 9 9
                meanGrade = 0.0
                """);
        SCRIPTS.due(35, "the mean of one, of two and of three answers", BENCH + """
                answer 0 0 0 1
                meanGrade = 14.0
                answer 0 0 0 2
                meanGrade = 21.0
                answer 0 0 0 3
                meanGrade = 33.0
                answer 0 0 0 2
                meanGrade = 31.75
                """);
        SCRIPTS.due(35, "the quotient is a double, with points", BENCH + """
                answer 0 0 0 1
                answer 0 0 0 2
                answer 0 0 0 3
                appeal 0
                decide 1
                meanGrade = 33.333333333333336
                mend 0 9 9
                meanGrade = 0.0
                """);
        SCRIPTS.due(35, "100 answers, of the grade 100 and one less", BENCH + """
                99 x answer 0 0 1 0
                meanGrade = 100.0
                answer 0 0 9 9
                meanGrade = 99.0
                """);
    }

    private static void standingShare() {
        SCRIPTS.due(36, "there are no certificates", BENCH + """
                standingShare throws ArithmeticException
                addCourse 1 50
                issue 0 0 throws UnsupportedOperationException
                standingShare throws ArithmeticException
                answer 0 0 1 0
                issue 0 0
                standingShare = 1.0
                """);
        SCRIPTS.due(36, "all, some and none of them stand, as a float", BENCH + """
                2 x addStudent 0
                addCourse 1 50
                answer 0 0 0 3
                answer 1 0 0 3
                answer 2 0 1 0
                3 x issue # 0
                standingShare = 1.0
                mend 0 9 -6
                standingShare = 0.0
                mend 0 1 0
                issue 2 0
                standingShare = 0.25
                issue 0 0
                standingShare = 0.4
                issue 1 0
                standingShare = 0.5
                mend 0 0 3
                standingShare = 0.5
                mend 0 9 9
                answer 0 0 9 9
                issue 0 0
                standingShare = 0.14285715
                """);
    }

    private static void isConsistent() {
        SCRIPTS.due(37, "true of a new object", "isConsistent = true");
        SCRIPTS.due(37, "true with answers, points, days, later exercises and mends", BENCH + """
                addStudent 0
                addLesson 1 9
                isConsistent = true
                answer 0 0 0 3
                answer 0 0 1 0
                isConsistent = true
                appeal 0
                isConsistent = true
                decide 60
                isConsistent = true
                pass 7
                isConsistent = true
                addExercise 0 2 2 1
                isConsistent = true
                mend 0 1 9
                isConsistent = true
                pass 99
                isConsistent = true
                """);
        SCRIPTS.due(37, "true of a bench that is full", """
                4 x addCohort 0 999
                8 x addStudent 3
                8 x addLesson 0 #
                8 x addExercise # 1 0 2
                4 x addExercise # 1 0 1
                12 x addCase # 1 3
                8 x answer # # 1 0
                8 x answer # # 1 1
                4 x answer # 11 1 0
                80 x answer 7 11 1 2
                pass 1
                isConsistent = true
                mend 11 1 1
                appeal 99
                decide 100
                isConsistent = true
                """);
    }

    private static void writeAnswer() {
        SCRIPTS.due(38, "there is no such answer", BENCH + """
                writeAnswer 0 throws IndexOutOfBoundsException
                answer 0 0 1 0
                answer 0 0 9 9
                writeAnswer -1 throws IndexOutOfBoundsException
                writeAnswer least throws IndexOutOfBoundsException
                writeAnswer 0 = 20
                writeAnswer 2 throws IndexOutOfBoundsException
                writeAnswer most throws IndexOutOfBoundsException
                line = answer 0: 100 passed
                writeAnswer 1 = 18
                line = answer 1: 0 failed
                """);
        SCRIPTS.due(38, "numbers of one and of two digits, up to the longest line", BENCH + """
                100 x answer 0 0 9 9
                writeAnswer 9 = 18
                line = answer 9: 0 failed
                writeAnswer 10 = 19
                line = answer 10: 0 failed
                appeal 99
                decide 100
                writeAnswer 99 = 28
                line = answer 99: 100 passed by 100
                writeAnswer 100 throws IndexOutOfBoundsException
                """);
        SCRIPTS.due(38, "the example of the document", """
                addCohort 0 9
                addStudent 0
                addLesson 0 0
                addExercise 0 1 0 0
                2 x addCase 0 1 9
                addCase 0 5 9
                addCase 0 5 8
                4 x answer 0 0 0 1
                gradeOf 3 = 51
                appeal 3
                decide 20
                writeAnswer 3 = 25
                line = answer 3: 71 passed by 20
                """);
    }

    private static void writeGrades() {
        SCRIPTS.due(38, "\" passed\" at a grade of 50, \" failed\" at one of 49", APPEALED + """
                decide 49
                writeAnswer 0 = 25
                line = answer 0: 49 failed by 49
                mend 0 2 0
                appeal 0
                decide 50
                writeAnswer 0 = 25
                line = answer 0: 50 passed by 50
                """);
        SCRIPTS.due(38, "\" passed\" and \" failed\" without points", """
                addCohort 0 9
                addStudent 0
                addLesson 0 0
                addExercise 0 1 0 0
                2 x addCase 0 1 9
                addCase 0 1 7
                2 x addCase 0 5 9
                addCase 0 5 8
                addExercise 0 1 0 0
                2 x addCase 1 # 1
                answer 0 0 0 1
                writeAnswer 0 = 19
                line = answer 0: 49 failed
                answer 0 1 0 0
                writeAnswer 1 = 19
                line = answer 1: 50 passed
                """);
        SCRIPTS.due(38, "grades of one, of two and of three digits", BENCH + """
                answer 0 0 9 9
                answer 0 0 0 1
                answer 0 0 1 0
                writeAnswer 0 = 18
                line = answer 0: 0 failed
                writeAnswer 1 = 19
                line = answer 1: 14 failed
                writeAnswer 2 = 20
                line = answer 2: 100 passed
                """);
    }

    private static void writePoints() {
        SCRIPTS.due(38, "no points without a decision, and none of 0", APPEALED + """
                writeAnswer 0 = 18
                line = answer 0: 0 failed
                decide 0
                writeAnswer 0 = 18
                line = answer 0: 0 failed
                """);
        SCRIPTS.due(38, "more than 0 points", APPEALED + """
                decide 1
                writeAnswer 0 = 23
                line = answer 0: 1 failed by 1
                """);
        SCRIPTS.due(38, "the most points", APPEALED + """
                decide 100
                writeAnswer 0 = 27
                line = answer 0: 100 passed by 100
                """);
        SCRIPTS.due(38, "all points that were granted, though the grade is at most 100", BENCH + """
                answer 0 0 1 0
                appeal 0
                decide 7
                writeAnswer 0 = 25
                line = answer 0: 100 passed by 7
                """);
        SCRIPTS.due(38, "no points after a mend", APPEALED + """
                decide 60
                mend 0 2 0
                writeAnswer 0 = 18
                line = answer 0: 0 failed
                """);
    }

    private static void lineAt() {
        SCRIPTS.due(39, "the line is empty at first", BENCH + """
                lineAt 0 throws IndexOutOfBoundsException
                answer 0 0 1 0
                lineAt 0 throws IndexOutOfBoundsException
                writeAnswer 1 throws IndexOutOfBoundsException
                lineAt 0 throws IndexOutOfBoundsException
                lineAt -1 throws IndexOutOfBoundsException
                """);
        SCRIPTS.due(39, "there is no such character", BENCH + """
                answer 0 0 0 3
                writeAnswer 0 = 19
                lineAt -1 throws IndexOutOfBoundsException
                lineAt least throws IndexOutOfBoundsException
                lineAt 0 = a
                lineAt 5 = r
                lineAt 7 = 0
                lineAt 8 = :
                lineAt 18 = d
                lineAt 19 throws IndexOutOfBoundsException
                lineAt most throws IndexOutOfBoundsException
                """);
    }

    private static void lineOfLatest() {
        SCRIPTS.due(39, "a shorter line in place of a longer one", BENCH + """
                answer 0 0 1 0
                answer 0 0 9 9
                writeAnswer 0 = 20
                lineAt 19 = d
                writeAnswer 1 = 18
                lineAt 17 = d
                lineAt 18 throws IndexOutOfBoundsException
                lineAt 19 throws IndexOutOfBoundsException
                """);
        SCRIPTS.due(39, "the line stays until an answer is written, whatever becomes of the answer", BENCH + """
                answer 0 0 1 0
                writeAnswer 0
                mend 0 9 9
                pass 1
                answer 0 0 9 9
                writeAnswer 2 throws IndexOutOfBoundsException
                line = answer 0: 100 passed
                """);
    }
}
