/** Promises 18 to 24: mastery and appeals. */
public final class AppealsTest {
    private static final Scripts SCRIPTS = new Scripts();

    /** Two students, a lesson with decay 4, two exercises x + 0 with cases of the inputs 1, 2 and 3. */
    private static final String BENCH = """
            addCohort 0 99
            2 x addStudent 0
            addLesson 0 4
            2 x addExercise 0 1 0 0
            2 x addCase # 1 1
            2 x addCase # 2 1
            2 x addCase # 3 1
            """;

    /** Six answers of the grade 33, those with even numbers to the exercise 0. */
    private static final String ANSWERS = BENCH + """
            answer 0 0 0 1
            answer 0 1 0 1
            answer 0 0 0 1
            answer 0 1 0 1
            answer 0 0 0 1
            answer 0 1 0 1
            """;

    public static void main(String[] args) {
        masteryRefused();
        mastery();
        masteryByDays();
        appeal();
        withdraw();
        decide();
        decideInTurn();
        appealCount();
        appealAt();
        mendsMeetAppeals();
        SCRIPTS.finish("AppealsTest");
    }

    /** A script for mastery, and the same one for masteryAnew. */
    private static void both(String sentence, String script) {
        SCRIPTS.due(18, sentence, script.replace("MASTERY", "mastery"));
        SCRIPTS.due(19, sentence, script.replace("MASTERY", "masteryAnew"));
    }

    private static void masteryRefused() {
        both("there is no such student", BENCH + """
                MASTERY -1 0 throws IndexOutOfBoundsException
                MASTERY least 0 throws IndexOutOfBoundsException
                MASTERY 0 0 = 0
                MASTERY 1 0 = 0
                MASTERY 2 0 throws IndexOutOfBoundsException
                MASTERY most 0 throws IndexOutOfBoundsException
                """);
        both("there is no such lesson", BENCH + """
                addLesson 0 0
                MASTERY 0 -1 throws IndexOutOfBoundsException
                MASTERY 0 least throws IndexOutOfBoundsException
                MASTERY 0 0 = 0
                MASTERY 0 1 = 100
                MASTERY 0 2 throws IndexOutOfBoundsException
                MASTERY 0 most throws IndexOutOfBoundsException
                """);
        both("there are no students and no lessons", """
                MASTERY 0 0 throws IndexOutOfBoundsException
                addCohort 0 0
                addStudent 0
                MASTERY 0 0 throws IndexOutOfBoundsException
                """);
    }

    private static void mastery() {
        both("100 without exercises, and no more with one", """
                addCohort 0 9
                addStudent 0
                2 x addLesson 0 9
                MASTERY 0 0 = 100
                pass 99
                MASTERY 0 0 = 100
                addExercise 0 1 0 0
                MASTERY 0 0 = 0
                MASTERY 0 1 = 100
                """);
        both("0 without an answer, and 0 of an exercise without one", BENCH + """
                MASTERY 0 0 = 0
                answer 0 0 1 0
                MASTERY 0 0 = 50
                answer 0 1 1 0
                MASTERY 0 0 = 100
                """);
        both("the sum is divided and rounded down", BENCH + """
                answer 0 0 0 1
                MASTERY 0 0 = 16
                answer 0 1 1 0
                MASTERY 0 0 = 66
                addExercise 0 1 0 0
                MASTERY 0 0 = 44
                """);
        both("the best answer counts alone, be it the first, the last or one between", BENCH + """
                answer 0 0 0 1
                answer 0 0 0 1
                MASTERY 0 0 = 16
                answer 0 0 1 0
                MASTERY 0 0 = 50
                answer 0 0 9 9
                MASTERY 0 0 = 50
                answer 0 1 1 0
                answer 0 1 0 1
                MASTERY 0 0 = 100
                """);
        both("other students, lessons and exercises do not count", BENCH + """
                addLesson 0 0
                addExercise 1 1 0 0
                addCase 2 1 1
                answer 1 0 1 0
                answer 0 2 1 0
                MASTERY 0 0 = 0
                MASTERY 0 1 = 100
                MASTERY 1 0 = 50
                MASTERY 1 1 = 0
                """);
        both("12 exercises of a lesson", """
                addCohort 0 9
                addStudent 0
                addLesson 0 0
                12 x addExercise 0 1 0 0
                12 x addCase # 1 1
                11 x answer 0 # 1 0
                MASTERY 0 0 = 91
                answer 0 11 1 0
                MASTERY 0 0 = 100
                """);
        both("a mend and points count", BENCH + """
                2 x answer 0 # 1 0
                MASTERY 0 0 = 100
                mend 1 2 9
                MASTERY 0 0 = 50
                appeal 1
                decide 40
                MASTERY 0 0 = 70
                """);
    }

    private static void masteryByDays() {
        both("the decay counts for each day since", BENCH + """
                2 x answer 0 # 1 0
                MASTERY 0 0 = 100
                pass 1
                MASTERY 0 0 = 96
                answer 0 1 1 0
                MASTERY 0 0 = 98
                pass 23
                MASTERY 0 0 = 6
                """);
        both("an answer is worth 0 at least", BENCH + """
                answer 0 0 1 0
                pass 24
                MASTERY 0 0 = 2
                pass 1
                MASTERY 0 0 = 0
                pass 1
                MASTERY 0 0 = 0
                answer 0 1 1 0
                MASTERY 0 0 = 50
                """);
        both("an answer of a grade below the decay is worth 0", BENCH + """
                answer 0 0 9 9
                appeal 0
                decide 3
                MASTERY 0 0 = 1
                pass 1
                answer 0 1 1 0
                MASTERY 0 0 = 50
                """);
        String longAgo = """
                addCohort 0 0
                addStudent 0
                2 x addLesson 0 0
                addLesson 0 9
                2 x addExercise # 1 0 0
                addExercise 2 1 0 0
                3 x addCase # 1 1
                3 x answer 0 # 1 0
                """;
        both("the greatest decay over 11 and 12 days", longAgo + """
                pass 11
                MASTERY 0 2 = 1
                pass 1
                MASTERY 0 2 = 0
                """);
        both("no decay and the greatest one from the first to the last day", longAgo + """
                10 x pass 99
                pass 9
                MASTERY 0 0 = 100
                MASTERY 0 2 = 0
                """);
        both("the days count from the answer, not from the points", BENCH + """
                answer 0 0 0 1
                answer 0 1 1 0
                pass 5
                appeal 0
                decide 7
                MASTERY 0 0 = 50
                """);
    }

    private static void appeal() {
        SCRIPTS.due(20, "there is no such answer", BENCH + """
                appeal 0 throws IndexOutOfBoundsException
                2 x answer 0 # 0 1
                appeal -1 throws IndexOutOfBoundsException
                appeal least throws IndexOutOfBoundsException
                appeal 0 = 1
                appeal 1 = 2
                appeal 2 throws IndexOutOfBoundsException
                appeal most throws IndexOutOfBoundsException
                """);
        SCRIPTS.due(20, "an appeal against it is waiting", ANSWERS + """
                appeal 2 = 1
                appeal 0 = 2
                appeal 2 throws IllegalStateException
                appeal 0 throws IllegalStateException
                """);
        SCRIPTS.due(20, "an appeal against it was decided, by 0 points or by more", ANSWERS + """
                appeal 0
                appeal 1
                decide 0
                decide 1
                appeal 0 throws IllegalStateException
                appeal 1 throws IllegalStateException
                appeal 2 = 1
                """);
        SCRIPTS.due(20, "an appeal against it was decided before the exercise was last mended", ANSWERS + """
                appeal 0
                decide 10
                mend 0 0 2
                appeal 0 = 1
                decide 10
                appeal 0 throws IllegalStateException
                mend 0 0 1
                appeal 0 = 1
                """);
        SCRIPTS.due(20, "a mend of another exercise, or one that is refused, allows no appeal again", ANSWERS + """
                appeal 0
                decide 10
                mend 1 0 2
                appeal 0 throws IllegalStateException
                mend 0 1 0 throws IllegalStateException
                appeal 0 throws IllegalStateException
                """);
        SCRIPTS.due(20, "an appeal that was withdrawn was not decided", ANSWERS + """
                appeal 0
                withdraw 0
                appeal 0 = 1
                """);
        SCRIPTS.due(20, "an answer of another grade, of another day and of a full one", BENCH + """
                answer 0 0 1 0
                answer 0 0 9 9
                pass 99
                pass 99
                appeal 0 = 1
                appeal 1 = 2
                gradeOf 0 = 100
                gradeOf 1 = 0
                """);
    }

    private static void withdraw() {
        SCRIPTS.due(21, "there is no such answer", BENCH + """
                withdraw 0 throws IndexOutOfBoundsException
                2 x answer 0 # 0 1
                2 x appeal #
                withdraw -1 throws IndexOutOfBoundsException
                withdraw least throws IndexOutOfBoundsException
                withdraw 2 throws IndexOutOfBoundsException
                withdraw most throws IndexOutOfBoundsException
                withdraw 0 = 1
                withdraw 1 = 0
                """);
        SCRIPTS.due(21, "no appeal against it was made", ANSWERS + """
                withdraw 0 throws NoSuchElementException
                appeal 1
                withdraw 0 throws NoSuchElementException
                """);
        SCRIPTS.due(21, "the appeal against it was withdrawn", ANSWERS + """
                2 x appeal #
                withdraw 0 = 1
                withdraw 0 throws NoSuchElementException
                """);
        SCRIPTS.due(21, "the appeal against it was decided", ANSWERS + """
                2 x appeal #
                decide 3
                withdraw 0 throws NoSuchElementException
                withdraw 1 = 0
                """);
        SCRIPTS.due(21, "the appeal against it met a mend", ANSWERS + """
                2 x appeal #
                mend 0 0 2
                withdraw 0 throws NoSuchElementException
                withdraw 1 = 0
                """);
        SCRIPTS.due(21, "the first, one between, the last and the only appeal", ANSWERS + """
                5 x appeal #
                withdraw 0 = 4
                appeals = 1 2 3 4
                withdraw 2 = 3
                appeals = 1 3 4
                withdraw 4 = 2
                appeals = 1 3
                appeal 0 = 3
                appeals = 1 3 0
                withdraw 3 = 2
                withdraw 1 = 1
                withdraw 0 = 0
                gradeOf 0 = 33
                decide 5 throws NoSuchElementException
                """);
    }

    private static void decide() {
        SCRIPTS.due(22, "the points are 0 to 100", ANSWERS + """
                6 x appeal #
                decide -1 throws IllegalArgumentException
                decide least throws IllegalArgumentException
                decide 101 throws IllegalArgumentException
                decide most throws IllegalArgumentException
                decide 0 = 0
                decide 100 = 1
                decide 1 = 2
                decide 99 = 3
                gradeOf 0 = 33
                gradeOf 1 = 100
                gradeOf 2 = 34
                gradeOf 3 = 100
                gradeOf 4 = 33
                """);
        SCRIPTS.due(22, "no appeal is waiting", ANSWERS + """
                decide 0 throws NoSuchElementException
                appeal 3
                decide 0 = 3
                decide 0 throws NoSuchElementException
                appeal 0
                withdraw 0
                decide 100 throws NoSuchElementException
                appeal 0
                mend 0 0 2
                decide 100 throws NoSuchElementException
                """);
        SCRIPTS.due(22, "no appeal is waiting on a new object", "decide 0 throws NoSuchElementException");
        SCRIPTS.due(22, "points out of range come ahead of no appeal", ANSWERS + """
                decide -1 throws IllegalArgumentException
                decide 101 throws IllegalArgumentException
                decide most throws IllegalArgumentException
                """);
    }

    private static void decideInTurn() {
        SCRIPTS.due(22, "the appeal that has been waiting longest, of any answer", ANSWERS + """
                appeal 4
                appeal 1
                appeal 3
                decide 4 = 4
                appeal 0
                decide 1 = 1
                decide 3 = 3
                decide 2 = 0
                gradeOf 0 = 35
                gradeOf 1 = 34
                gradeOf 3 = 36
                gradeOf 4 = 37
                gradeAnew 4 = 37
                """);
        SCRIPTS.due(22, "an appeal that was withdrawn and made again waits from then on", ANSWERS + """
                3 x appeal #
                withdraw 0
                appeal 0
                decide 5 = 1
                decide 5 = 2
                decide 5 = 0
                """);
        SCRIPTS.due(22, "the points of a decision after a mend come in place of those before", ANSWERS + """
                appeal 0
                decide 30
                gradeOf 0 = 63
                mend 0 2 9
                appeal 0
                decide 20
                gradeOf 0 = 20
                gradeAnew 0 = 20
                """);
    }

    private static void appealCount() {
        SCRIPTS.due(23, "0 at first, one more by an appeal, one less by a withdrawal and by a decision", ANSWERS + """
                appealCount = 0
                3 x appeal #
                appealCount = 3
                withdraw 1
                appealCount = 2
                decide 0
                appealCount = 1
                decide 0
                appealCount = 0
                """);
        SCRIPTS.due(23, "appeals against 100 answers", """
                addCohort 0 9
                addStudent 0
                addLesson 0 0
                addExercise 0 1 0 0
                addCase 0 1 1
                100 x answer 0 0 1 1
                99 x appeal #
                appeal 99 = 100
                appealCount = 100
                appealAt 0 = 0
                appealAt 99 = 99
                appealAt 100 throws IndexOutOfBoundsException
                withdraw 99 = 99
                appeal 99 = 100
                100 x decide # = #
                appealCount = 0
                gradeOf 99 = 99
                """);
        SCRIPTS.due(23, "a mend leaves none of 100 appeals", """
                addCohort 0 9
                addStudent 0
                addLesson 0 0
                addExercise 0 1 0 0
                addCase 0 1 1
                100 x answer 0 0 1 1
                100 x appeal #
                mend 0 1 1 = 100
                appealCount = 0
                100 x appeal #
                appealCount = 100
                """);
    }

    private static void appealAt() {
        SCRIPTS.due(24, "there is no such position", ANSWERS + """
                appealAt 0 throws IndexOutOfBoundsException
                appeal 5
                appeal 2
                appeal 3
                appealAt -1 throws IndexOutOfBoundsException
                appealAt least throws IndexOutOfBoundsException
                appealAt 0 = 5
                appealAt 1 = 2
                appealAt 2 = 3
                appealAt 3 throws IndexOutOfBoundsException
                appealAt most throws IndexOutOfBoundsException
                decide 0
                appealAt 0 = 2
                appealAt 2 throws IndexOutOfBoundsException
                """);
    }

    private static void mendsMeetAppeals() {
        SCRIPTS.due(25, "appeals against its answers are not waiting any more, others are", ANSWERS + """
                appeal 5
                appeal 2
                appeal 0
                appeal 3
                appeal 4
                mend 0 0 2
                appeals = 5 3
                appealCount = 2
                appeal 5 throws IllegalStateException
                appeal 4 = 3
                appeal 2 = 4
                appeals = 5 3 4 2
                decide 1 = 5
                """);
        SCRIPTS.due(25, "no points are granted to its answers any more, others keep theirs", ANSWERS + """
                appeal 0
                appeal 1
                decide 10
                decide 10
                mend 0 2 -1
                gradeOf 0 = 33
                gradeOf 1 = 43
                writeAnswer 0
                line = answer 0: 33 failed
                writeAnswer 1
                line = answer 1: 43 failed by 10
                """);
        SCRIPTS.due(25, "a mend that is refused leaves appeals and points", ANSWERS + """
                appeal 0
                decide 10
                appeal 2
                mend 0 1 0 throws IllegalStateException
                mend 0 1 100 throws IllegalArgumentException
                appeals = 2
                gradeOf 0 = 43
                """);
    }
}
