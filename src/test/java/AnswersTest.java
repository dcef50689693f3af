/** Promises 9 to 17: reasons, answers, grades, credits and best answers. */
public final class AnswersTest {
    private static final Scripts SCRIPTS = new Scripts();

    /** A student of the days 0 to 9, a lesson without decay, an exercise x + 0 with a case of the input 3. */
    private static final String BENCH = """
            addCohort 0 9
            addStudent 0
            addLesson 0 0
            addExercise 0 1 0 0
            addCase 0 3 1
            """;

    /** Two of the inputs are alike, so that an answer can have credit for none, one, two or three of three cases. */
    private static final String THIRDS = """
            addCohort 0 9
            addStudent 0
            addLesson 0 0
            addExercise 0 1 0 0
            addCase 0 1 1
            addCase 0 1 1
            addCase 0 2 1
            """;

    /** With decay 9, the answer x + 0 has the grade 100, x + 1 has 66 and x + 50 has 0. */
    private static final String DECAY = """
            addCohort 0 999
            addStudent 0
            addLesson 0 9
            addExercise 0 1 0 2
            addCase 0 3 3
            """;

    public static void main(String[] args) {
        reason();
        reasonsInOrder();
        answer();
        answerOutOfRange();
        answerRefused();
        answerCount();
        grades();
        gradesWithPoints();
        credit();
        creditOfGraders();
        creditOfCases();
        studentOf();
        dayOf();
        bestAnswer();
        bestAnswerByDays();
        SCRIPTS.finish("AnswersTest");
    }

    private static void reason() {
        SCRIPTS.due(9, "there is no such student", BENCH + """
                addStudent 0
                reason -1 0 throws IndexOutOfBoundsException
                reason least 0 throws IndexOutOfBoundsException
                reason 0 0 = -
                reason 1 0 = -
                reason 2 0 throws IndexOutOfBoundsException
                reason most 0 throws IndexOutOfBoundsException
                """);
        SCRIPTS.due(9, "there is no such exercise", BENCH + """
                addExercise 0 1 0 0
                reason 0 -1 throws IndexOutOfBoundsException
                reason 0 least throws IndexOutOfBoundsException
                reason 0 0 = -
                reason 0 1 = c
                reason 0 2 throws IndexOutOfBoundsException
                reason 0 most throws IndexOutOfBoundsException
                """);
        SCRIPTS.due(9, "'d' on a day before the first or behind the last one", """
                addCohort 2 3
                addStudent 0
                addLesson 0 0
                addExercise 0 1 0 0
                addCase 0 3 1
                reason 0 0 = d
                pass 1
                reason 0 0 = d
                pass 1
                reason 0 0 = -
                pass 1
                reason 0 0 = -
                pass 1
                reason 0 0 = d
                """);
        SCRIPTS.due(9, "'d' with a cohort of the first and of the last day alone", """
                addCohort 0 0
                addCohort 999 999
                2 x addStudent #
                addLesson 0 0
                addExercise 0 1 0 0
                addCase 0 3 1
                reason 0 0 = -
                reason 1 0 = d
                pass 1
                reason 0 0 = d
                10 x pass 99
                pass 7
                reason 1 0 = d
                pass 1
                reason 1 0 = -
                """);
        SCRIPTS.due(9, "'p' at a mastery of 49, not of 50", """
                addCohort 0 9
                addStudent 0
                addLesson 0 1
                addLesson 1 0
                2 x addExercise # 1 0 0
                2 x addCase # 0 1
                addCase 0 3 1
                reason 0 1 = p
                answer 0 0 0 0
                mastery 0 0 = 50
                reason 0 1 = -
                pass 1
                mastery 0 0 = 49
                reason 0 1 = p
                reason 0 0 = -
                """);
    }

    private static void reasonsInOrder() {
        String closed = """
                addCohort 1 1
                addStudent 0
                addLesson 0 0
                addLesson 1 0
                2 x addExercise # 1 0 0
                """;
        SCRIPTS.due(9, "'d' comes ahead of 'c' and 'p', 'c' ahead of 'p'", closed + """
                reason 0 1 = d
                reason 0 0 = d
                addCase 1 2 2
                reason 0 1 = d
                pass 1
                reason 0 1 = p
                reason 0 0 = c
                pass 1
                reason 0 1 = d
                """);
        SCRIPTS.due(9, "'c' comes ahead of 'p'", closed + """
                pass 1
                reason 0 1 = c
                """);
        SCRIPTS.due(9, "'c' without cases, not with one", closed + """
                pass 1
                reason 0 0 = c
                addCase 0 2 2
                reason 0 0 = -
                """);
    }

    private static void answer() {
        SCRIPTS.due(10, "there is no such student", BENCH + """
                addStudent 0
                answer -1 0 1 0 throws IndexOutOfBoundsException
                answer least 0 1 0 throws IndexOutOfBoundsException
                answer 0 0 1 0 = 0
                answer 1 0 1 0 = 1
                answer 2 0 1 0 throws IndexOutOfBoundsException
                answer most 0 1 0 throws IndexOutOfBoundsException
                """);
        SCRIPTS.due(10, "there is no such exercise", BENCH + """
                addExercise 0 1 0 0
                addCase 1 3 1
                answer 0 -1 1 0 throws IndexOutOfBoundsException
                answer 0 least 1 0 throws IndexOutOfBoundsException
                answer 0 0 1 0 = 0
                answer 0 1 1 0 = 1
                answer 0 2 1 0 throws IndexOutOfBoundsException
                answer 0 most 1 0 throws IndexOutOfBoundsException
                """);
        SCRIPTS.due(10, "the first and the last of 8 students and 12 exercises", """
                addCohort 0 0
                8 x addStudent 0
                addLesson 0 0
                12 x addExercise 0 1 # 0
                12 x addCase # 1 1
                answer 7 11 1 11 = 0
                gradeOf 0 = 100
                answer 0 0 1 0 = 1
                gradeOf 1 = 100
                """);
    }

    private static void answerOutOfRange() {
        SCRIPTS.due(10, "the factor is -9 to 9", BENCH + """
                answer 0 0 -10 0 throws IllegalArgumentException
                answer 0 0 least 0 throws IllegalArgumentException
                answer 0 0 -9 0 = 0
                answer 0 0 9 0 = 1
                answer 0 0 10 0 throws IllegalArgumentException
                answer 0 0 most 0 throws IllegalArgumentException
                """);
        SCRIPTS.due(10, "the addend is -99 to 99", BENCH + """
                answer 0 0 0 -100 throws IllegalArgumentException
                answer 0 0 0 least throws IllegalArgumentException
                answer 0 0 0 -99 = 0
                answer 0 0 0 99 = 1
                answer 0 0 0 100 throws IllegalArgumentException
                answer 0 0 0 most throws IllegalArgumentException
                """);
        SCRIPTS.due(10, "no such student or exercise comes ahead of a rule out of range", BENCH + """
                answer 1 0 10 0 throws IndexOutOfBoundsException
                answer 0 1 0 100 throws IndexOutOfBoundsException
                answer -1 0 -10 0 throws IndexOutOfBoundsException
                answer 0 -1 0 -100 throws IndexOutOfBoundsException
                """);
    }

    private static void answerRefused() {
        SCRIPTS.due(10, "there is the reason 'd'", BENCH + """
                pass 9
                answer 0 0 1 0 = 0
                pass 1
                answer 0 0 1 0 throws UnsupportedOperationException
                """);
        SCRIPTS.due(10, "there is the reason 'c'", BENCH + """
                addExercise 0 1 0 0
                answer 0 1 1 0 throws UnsupportedOperationException
                addCase 1 1 1
                answer 0 1 1 0 = 0
                """);
        SCRIPTS.due(10, "there is the reason 'p'", BENCH + """
                addLesson 1 0
                addExercise 1 1 0 0
                addCase 1 1 1
                answer 0 1 1 0 throws UnsupportedOperationException
                answer 0 0 1 0 = 0
                answer 0 1 1 0 = 1
                mend 0 1 1
                answer 0 1 1 0 throws UnsupportedOperationException
                """);
        SCRIPTS.due(10, "a rule out of range comes ahead of a reason", BENCH + """
                addExercise 0 1 0 0
                answer 0 1 10 0 throws IllegalArgumentException
                answer 0 1 0 100 throws IllegalArgumentException
                pass 10
                answer 0 0 -10 0 throws IllegalArgumentException
                answer 0 0 0 -100 throws IllegalArgumentException
                """);
        SCRIPTS.due(10, "at most 100 answers are numbered from 0", BENCH + """
                100 x answer 0 0 1 0 = #
                answer 0 0 1 0 throws IllegalStateException
                addExercise 0 1 0 0
                addCase 1 1 1
                answer 0 1 1 0 throws IllegalStateException
                answerCount = 100
                gradeOf 99 = 100
                gradeOf 100 throws IndexOutOfBoundsException
                """);
        SCRIPTS.due(10, "all that is documented before comes ahead of 100 answers", BENCH + """
                100 x answer 0 0 1 0
                addExercise 0 1 0 0
                answer 0 1 1 0 throws UnsupportedOperationException
                answer 0 0 10 0 throws IllegalArgumentException
                answer 0 0 0 -100 throws IllegalArgumentException
                answer 1 0 1 0 throws IndexOutOfBoundsException
                answer 0 2 1 0 throws IndexOutOfBoundsException
                """);
        SCRIPTS.due(10, "the reason 'd' comes ahead of 100 answers", BENCH + """
                100 x answer 0 0 1 0
                pass 10
                answer 0 0 1 0 throws UnsupportedOperationException
                """);
    }

    private static void answerCount() {
        SCRIPTS.due(11, "0 at first, 100 at last, and no more for an answer that is refused", BENCH + """
                answerCount = 0
                answer 0 0 10 0 throws IllegalArgumentException
                answerCount = 0
                answer 0 0 1 0
                answerCount = 1
                99 x answer 0 0 1 1
                answerCount = 100
                answer 0 0 1 0 throws IllegalStateException
                answerCount = 100
                mend 0 2 0
                answerCount = 100
                """);
    }

    private static void grades() {
        SCRIPTS.due(12, "there is no such answer", BENCH + """
                gradeOf 0 throws IndexOutOfBoundsException
                answer 0 0 1 0
                answer 0 0 1 1
                gradeOf -1 throws IndexOutOfBoundsException
                gradeOf least throws IndexOutOfBoundsException
                gradeOf 0 = 100
                gradeOf 1 = 0
                gradeOf 2 throws IndexOutOfBoundsException
                gradeOf most throws IndexOutOfBoundsException
                """);
        SCRIPTS.due(13, "there is no such answer", BENCH + """
                gradeAnew 0 throws IndexOutOfBoundsException
                answer 0 0 1 0
                answer 0 0 1 1
                gradeAnew -1 throws IndexOutOfBoundsException
                gradeAnew least throws IndexOutOfBoundsException
                gradeAnew 0 = 100
                gradeAnew 1 = 0
                gradeAnew 2 throws IndexOutOfBoundsException
                gradeAnew most throws IndexOutOfBoundsException
                """);
        both("the grade is 0 to 100, rounded down", THIRDS + """
                answer 0 0 0 99
                answer 0 0 0 2
                answer 0 0 0 1
                answer 0 0 1 0
                GRADE 0 = 0
                GRADE 1 = 33
                GRADE 2 = 66
                GRADE 3 = 100
                """);
        both("the grade of the greatest weights and of the least one", """
                addCohort 0 0
                addStudent 0
                addLesson 0 0
                addExercise 0 1 0 1
                6 x addCase 0 # 9
                answer 0 0 1 0
                answer 0 0 1 1
                answer 0 0 1 3
                GRADE 0 = 100
                GRADE 1 = 44
                GRADE 2 = 0
                addExercise 0 1 0 0
                addCase 1 0 1
                answer 0 1 9 0
                GRADE 3 = 100
                """);
        both("the rule of the exercise of now counts", BENCH + """
                answer 0 0 1 0
                answer 0 0 2 0
                mend 0 2 0
                GRADE 0 = 0
                GRADE 1 = 100
                """);
    }

    /** A script for gradeOf, and the same one for gradeAnew. */
    private static void both(String sentence, String script) {
        SCRIPTS.due(12, sentence, script.replace("GRADE", "gradeOf"));
        SCRIPTS.due(13, sentence, script.replace("GRADE", "gradeAnew"));
    }

    private static void gradesWithPoints() {
        String half = """
                addCohort 0 9
                addStudent 0
                addLesson 0 0
                addExercise 0 1 0 0
                2 x addCase 0 # 1
                answer 0 0 0 0
                appeal 0
                GRADE 0 = 50
                """;
        both("0 points leave the grade as it is", half + """
                decide 0
                GRADE 0 = 50
                """);
        both("points belong to the grade, below 100", half + """
                decide 49
                GRADE 0 = 99
                """);
        both("points belong to the grade, just 100", half + """
                decide 50
                GRADE 0 = 100
                """);
        both("the grade is at most 100 with points", half + """
                decide 51
                GRADE 0 = 100
                """);
        both("the grade is at most 100 with the most points", half + """
                decide 100
                GRADE 0 = 100
                """);
        both("points alone", BENCH + """
                answer 0 0 9 9
                appeal 0
                decide 100
                GRADE 0 = 100
                """);
        both("a full grade with a point", BENCH + """
                answer 0 0 1 0
                appeal 0
                decide 1
                GRADE 0 = 100
                """);
        both("points are added after the rounding", THIRDS + """
                answer 0 0 0 1
                appeal 0
                decide 20
                GRADE 0 = 86
                """);
        both("a mend takes the points, and does not give them back", half + """
                decide 30
                mend 0 2 0
                GRADE 0 = 50
                mend 0 1 0
                GRADE 0 = 50
                """);
    }

    private static void credit() {
        SCRIPTS.due(14, "there is no such answer", BENCH + """
                creditOf 0 0 throws IndexOutOfBoundsException
                answer 0 0 1 0
                answer 0 0 1 1
                creditOf -1 0 throws IndexOutOfBoundsException
                creditOf least 0 throws IndexOutOfBoundsException
                creditOf 0 0 = 1
                creditOf 1 0 = 0
                creditOf 2 0 throws IndexOutOfBoundsException
                creditOf most 0 throws IndexOutOfBoundsException
                """);
        SCRIPTS.due(14, "there is no such case", BENCH + """
                addCase 0 4 2
                answer 0 0 1 0
                creditOf 0 -1 throws NoSuchElementException
                creditOf 0 least throws NoSuchElementException
                creditOf 0 0 = 1
                creditOf 0 1 = 2
                creditOf 0 2 throws NoSuchElementException
                creditOf 0 6 throws NoSuchElementException
                creditOf 0 most throws NoSuchElementException
                """);
        SCRIPTS.due(14, "there is no such case beside 6 of its exercise, and the cases of another do not count", BENCH + """
                addExercise 0 1 0 0
                6 x addCase 1 # 7
                answer 0 1 1 0
                answer 0 0 1 0
                creditOf 0 0 = 7
                creditOf 0 5 = 7
                creditOf 0 6 throws NoSuchElementException
                creditOf 1 1 throws NoSuchElementException
                """);
        SCRIPTS.due(14, "no such answer comes ahead of no such case", BENCH + """
                creditOf 0 1 throws IndexOutOfBoundsException
                answer 0 0 1 0
                creditOf 1 1 throws IndexOutOfBoundsException
                creditOf -1 -1 throws IndexOutOfBoundsException
                """);
    }

    /** What weight 5 gives for a gap, by a number that is too great and by one that is too small. */
    private static void dueCredit(int grader, int gap, int want) {
        String script = BENCH + """
                addExercise 0 1 0 GRADER
                addCase 1 3 5
                answer 0 1 1 GAP
                answer 0 1 1 -GAP
                creditOf 0 0 = WANT
                creditOf 1 0 = WANT
                """;
        SCRIPTS.due(14, "the credit of grader " + grader + " for a gap of " + gap,
                script.replace("GRADER", "" + grader).replace("GAP", "" + gap).replace("WANT", "" + want));
    }

    private static void creditOfGraders() {
        int[][] due = {{0, 5, 5, 5}, {1, 0, 2, 3}, {2, 0, 2, 3}, {3, 0, 0, 3}, {8, 0, 0, 3}, {9, 0, 0, 3},
            {10, 0, 0, 0}, {11, 0, 0, 0}, {99, 0, 0, 0}};
        for (int[] row : due) {
            for (int grader = 0; grader <= 2; grader++) {
                dueCredit(grader, row[0], row[grader + 1]);
            }
        }
        String weights = BENCH + """
                9 x addExercise 0 1 0 GRADER
                addCase 1 3 1
                addCase 2 3 2
                addCase 3 3 3
                addCase 4 3 4
                addCase 5 3 5
                addCase 6 3 6
                addCase 7 3 7
                addCase 8 3 8
                addCase 9 3 9
                answer 0 1 1 1
                answer 0 2 1 1
                answer 0 3 1 1
                answer 0 4 1 1
                answer 0 5 1 1
                answer 0 6 1 1
                answer 0 7 1 1
                answer 0 8 1 1
                answer 0 9 1 1
                """;
        SCRIPTS.due(14, "grader 0 gives nothing of any weight", weights.replace("GRADER", "0") + """
                9 x creditOf # 0 = 0
                """);
        SCRIPTS.due(14, "grader 1 gives half of the weight, rounded down", weights.replace("GRADER", "1") + """
                creditOf 0 0 = 0
                creditOf 1 0 = 1
                creditOf 2 0 = 1
                creditOf 3 0 = 2
                creditOf 4 0 = 2
                creditOf 5 0 = 3
                creditOf 6 0 = 3
                creditOf 7 0 = 4
                creditOf 8 0 = 4
                """);
        SCRIPTS.due(14, "grader 2 gives two thirds of the weight, rounded down", weights.replace("GRADER", "2") + """
                creditOf 0 0 = 0
                creditOf 1 0 = 1
                creditOf 2 0 = 2
                creditOf 3 0 = 2
                creditOf 4 0 = 3
                creditOf 5 0 = 4
                creditOf 6 0 = 4
                creditOf 7 0 = 5
                creditOf 8 0 = 6
                """);
    }

    private static void creditOfCases() {
        String far = """
                addCohort 0 0
                addStudent 0
                addLesson 0 0
                addExercise 0 9 99 2
                addCase 0 99 9
                addCase 0 0 4
                addCase 0 11 2
                """;
        SCRIPTS.due(14, "the greatest gap there can be, above and below", far + """
                answer 0 0 -9 -99
                creditOf 0 0 = 0
                mend 0 -9 -99
                answer 0 0 9 99
                creditOf 1 0 = 0
                creditOf 0 0 = 9
                """);
        SCRIPTS.due(14, "gaps of 256, 512 and 1024 are no gaps of 0", far + """
                answer 0 0 7 41
                answer 0 0 4 82
                answer 0 0 -1 65
                3 x creditOf # 0 = 0
                """);
        SCRIPTS.due(14, "the input 0 leaves the addends alone", far + """
                answer 0 0 -9 99
                creditOf 0 1 = 4
                creditOf 0 0 = 0
                creditOf 0 2 = 0
                """);
        SCRIPTS.due(14, "the gap is of both rules at the input", far + """
                answer 0 0 8 99
                answer 0 0 8 90
                answer 0 0 0 99
                mend 0 8 99
                creditOf 0 2 = 2
                creditOf 1 0 = 6
                creditOf 1 2 = 1
                mend 0 0 0
                creditOf 2 2 = 0
                mend 0 -9 99
                creditOf 2 1 = 4
                mend 0 -9 91
                creditOf 2 1 = 2
                mend 0 9 0
                creditOf 2 2 = 2
                """);
        SCRIPTS.due(14, "points give no credit", BENCH + """
                answer 0 0 9 9
                appeal 0
                decide 100
                creditOf 0 0 = 0
                """);
    }

    private static void studentOf() {
        SCRIPTS.due(15, "there is no such answer", BENCH + """
                7 x addStudent 0
                studentOf 0 throws IndexOutOfBoundsException
                answer 7 0 1 0
                answer 0 0 1 0
                studentOf -1 throws IndexOutOfBoundsException
                studentOf least throws IndexOutOfBoundsException
                studentOf 0 = 7
                studentOf 1 = 0
                studentOf 2 throws IndexOutOfBoundsException
                studentOf most throws IndexOutOfBoundsException
                """);
        SCRIPTS.due(15, "the last of 100 answers has its student", BENCH + """
                addStudent 0
                99 x answer 0 0 1 0
                answer 1 0 1 0
                studentOf 98 = 0
                studentOf 99 = 1
                studentOf 100 throws IndexOutOfBoundsException
                """);
    }

    private static void dayOf() {
        SCRIPTS.due(16, "there is no such answer", BENCH + """
                dayOf 0 throws IndexOutOfBoundsException
                answer 0 0 1 0
                pass 4
                answer 0 0 1 0
                pass 1
                dayOf -1 throws IndexOutOfBoundsException
                dayOf least throws IndexOutOfBoundsException
                dayOf 0 = 0
                dayOf 1 = 4
                dayOf 2 throws IndexOutOfBoundsException
                dayOf most throws IndexOutOfBoundsException
                """);
        SCRIPTS.due(16, "the day stays on the last day, after points and after a mend", """
                addCohort 0 999
                addStudent 0
                addLesson 0 0
                addExercise 0 1 0 0
                addCase 0 3 1
                10 x pass 99
                pass 8
                answer 0 0 1 1
                pass 1
                answer 0 0 1 0
                appeal 0
                decide 5
                mend 0 2 0
                dayOf 0 = 998
                dayOf 1 = 999
                """);
    }

    private static void bestAnswer() {
        SCRIPTS.due(17, "there is no such student", BENCH + """
                addStudent 0
                2 x answer # 0 1 0
                bestAnswer -1 0 throws IndexOutOfBoundsException
                bestAnswer least 0 throws IndexOutOfBoundsException
                bestAnswer 0 0 = 0
                bestAnswer 1 0 = 1
                bestAnswer 2 0 throws IndexOutOfBoundsException
                bestAnswer most 0 throws IndexOutOfBoundsException
                """);
        SCRIPTS.due(17, "there is no such exercise", BENCH + """
                addExercise 0 1 0 0
                addCase 1 1 1
                2 x answer 0 # 1 0
                bestAnswer 0 -1 throws IndexOutOfBoundsException
                bestAnswer 0 least throws IndexOutOfBoundsException
                bestAnswer 0 0 = 0
                bestAnswer 0 1 = 1
                bestAnswer 0 2 throws IndexOutOfBoundsException
                bestAnswer 0 most throws IndexOutOfBoundsException
                """);
        SCRIPTS.due(17, "there is no answer of the student to the exercise", BENCH + """
                addStudent 0
                addExercise 0 1 0 0
                addCase 1 1 1
                bestAnswer 0 0 throws NoSuchElementException
                answer 1 0 1 0
                answer 0 1 1 0
                bestAnswer 0 0 throws NoSuchElementException
                answer 0 0 9 9
                bestAnswer 0 0 = 2
                bestAnswer 1 1 throws NoSuchElementException
                """);
        SCRIPTS.due(17, "no such student or exercise comes ahead of no answer", BENCH + """
                bestAnswer 1 0 throws IndexOutOfBoundsException
                bestAnswer 0 1 throws IndexOutOfBoundsException
                """);
        SCRIPTS.due(17, "of 100 answers that are worth the same, the first", BENCH + """
                100 x answer 0 0 1 0
                bestAnswer 0 0 = 0
                """);
        SCRIPTS.due(17, "of 100 answers, the last", BENCH + """
                99 x answer 0 0 1 1
                answer 0 0 1 0
                bestAnswer 0 0 = 99
                """);
    }

    private static void bestAnswerByDays() {
        SCRIPTS.due(17, "the answer that is worth the most today, of any day", DECAY + """
                answer 0 0 1 50
                bestAnswer 0 0 = 0
                answer 0 0 1 0
                bestAnswer 0 0 = 1
                pass 3
                answer 0 0 1 1
                mastery 0 0 = 73
                bestAnswer 0 0 = 1
                pass 1
                answer 0 0 1 1
                mastery 0 0 = 66
                bestAnswer 0 0 = 3
                """);
        SCRIPTS.due(17, "of answers that have become worth 0, the one with the lowest number", DECAY + """
                answer 0 0 1 50
                answer 0 0 1 0
                pass 11
                mastery 0 0 = 1
                bestAnswer 0 0 = 1
                pass 1
                mastery 0 0 = 0
                bestAnswer 0 0 = 0
                10 x pass 98
                bestAnswer 0 0 = 0
                """);
        String points = DECAY + """
                answer 0 0 1 0
                pass 4
                answer 0 0 1 50
                appeal 1
                """;
        SCRIPTS.due(17, "of 64 and 64 of two days, the one with the lowest number", points + """
                decide 64
                bestAnswer 0 0 = 0
                """);
        SCRIPTS.due(17, "of 64 and 65 of two days, the latter", points + """
                decide 65
                bestAnswer 0 0 = 1
                """);
    }
}
