/** Promises 9 to 17: reasons, answers, grades, credits and best answers. */
public final class AnswersTest {
    private static final Checks CHECKS = new Checks();
    private static final int LEAST = Integer.MIN_VALUE;
    private static final int MOST = Integer.MAX_VALUE;

    public static void main(String[] args) {
        reason();
        answer();
        hundredAnswers();
        gradesWithPoints();
        creditOfGraders();
        creditOfRules();
        studentsAndDays();
        bestAnswer();
        CHECKS.finish("AnswersTest");
    }

    /** A student of the days 0 to 9, a lesson of that decay, an exercise 1 x + 0 with one case 3. */
    private static CourseForge bench(int decay, int grader, int weight) {
        CourseForge x = new CourseForge();
        x.addCohort(0, 9);
        x.addStudent(0);
        x.addLesson(0, decay);
        x.addExercise(0, 1, 0, grader);
        x.addCase(0, 3, weight);
        return x;
    }

    private static void reason() {
        CourseForge x = new CourseForge();
        x.addCohort(1, 2);
        x.addStudent(0);
        x.addLesson(0, 0);
        x.addLesson(1, 0);
        x.addExercise(0, 1, 0, 0);
        x.addExercise(1, 1, 0, 0);
        CHECKS.due("reason, all three apply", x.reason(0, 1), 'd');
        x.pass(1);
        CHECKS.due("reason on the first day, 'c' ahead of 'p'", x.reason(0, 1), 'c');
        x.addCase(1, 2, 2);
        CHECKS.due("reason of a lesson that is not open", x.reason(0, 1), 'p');
        CHECKS.due("reason without cases", x.reason(0, 0), 'c');
        x.addCase(0, 2, 2);
        CHECKS.due("no reason", x.reason(0, 0), '-');
        x.answer(0, 0, 1, 0);
        CHECKS.due("no reason in a lesson that has become open", x.reason(0, 1), '-');
        x.pass(1);
        CHECKS.due("no reason on the last day", x.reason(0, 1), '-');
        x.pass(1);
        CHECKS.due("reason behind the last day", x.reason(0, 1), 'd');
        CHECKS.throwsIndex(x, "reason(-1, 0)", () -> x.reason(-1, 0));
        CHECKS.throwsIndex(x, "reason(1, 0)", () -> x.reason(1, 0));
        CHECKS.throwsIndex(x, "reason(0, -1)", () -> x.reason(0, -1));
        CHECKS.throwsIndex(x, "reason(0, 2)", () -> x.reason(0, 2));
    }

    private static void answer() {
        CourseForge x = bench(0, 0, 4);
        CHECKS.throwsIndex(x, "answer(-1, ..)", () -> x.answer(-1, 0, 0, 0));
        CHECKS.throwsIndex(x, "answer(1, 0, 10, 0)", () -> x.answer(1, 0, 10, 0));
        CHECKS.throwsIndex(x, "answer(0, 1, 10, 0)", () -> x.answer(0, 1, 10, 0));
        CHECKS.throwsIndex(x, "answer(0, -1, 0, 0)", () -> x.answer(0, -1, 0, 0));
        CHECKS.throwsArgument(x, "answer, factor -10", () -> x.answer(0, 0, -10, 0));
        CHECKS.throwsArgument(x, "answer, factor 10", () -> x.answer(0, 0, 10, 0));
        CHECKS.throwsArgument(x, "answer, addend -100", () -> x.answer(0, 0, 0, -100));
        CHECKS.throwsArgument(x, "answer, addend 100", () -> x.answer(0, 0, 0, 100));
        CHECKS.throwsArgument(x, "answer, addend least", () -> x.answer(0, 0, 0, LEAST));
        CHECKS.due("answer(0, 0, -9, -99)", x.answer(0, 0, -9, -99), 0);
        CHECKS.due("answer(0, 0, 9, 99)", x.answer(0, 0, 9, 99), 1);
        CHECKS.due("answer(0, 0, 1, 0)", x.answer(0, 0, 1, 0), 2);
        CHECKS.due("the grade of an answer", x.gradeOf(2), 100);
        CHECKS.due("the number of answers", x.answerCount(), 3);
        x.addExercise(0, 1, 0, 0);
        CHECKS.throwsUnsupported(x, "answer without cases", () -> x.answer(0, 1, 0, 0));
        CHECKS.throwsArgument(x, "answer without cases, factor 10", () -> x.answer(0, 1, 10, 0));
        x.addLesson(1, 0);
        x.addExercise(1, 1, 0, 0);
        x.addCase(2, 1, 1);
        CHECKS.due("the lesson is open at mastery 50", x.reason(0, 2), '-');
        x.mend(0, 1, 1);
        CHECKS.throwsUnsupported(x, "answer in a lesson not open", () -> x.answer(0, 2, 0, 0));
        x.pass(10);
        CHECKS.throwsUnsupported(x, "answer behind the last day", () -> x.answer(0, 0, 0, 0));
        CHECKS.throwsArgument(x, "answer behind the last day, 100", () -> x.answer(0, 0, 0, 100));
        CHECKS.due("answers that threw are none", x.answerCount(), 3);
    }

    private static void hundredAnswers() {
        CourseForge x = bench(0, 0, 1);
        CHECKS.due("answerCount at first", x.answerCount(), 0);
        for (int i = 0; i < 100; i++) {
            CHECKS.due("answer, the number " + i, x.answer(0, 0, 1, i == 98 ? 0 : 1), i);
            CHECKS.due("answerCount", x.answerCount(), i + 1);
        }
        x.addExercise(0, 1, 0, 0);
        CHECKS.due("a hundredth answer", x.gradeOf(99), 0);
        CHECKS.due("the best of a hundred", x.bestAnswer(0, 0), 98);
        CHECKS.due("101 answers", Checks.outcome(() -> x.answer(0, 0, 1, 0)), "IllegalStateException");
        CHECKS.due("101, but a reason", Checks.outcome(() -> x.answer(0, 1, 1, 0)),
                "UnsupportedOperationException");
        CHECKS.due("101, factor 10", Checks.outcome(() -> x.answer(0, 0, 10, 0)), "IllegalArgumentException");
        CHECKS.due("101, no student", Checks.outcome(() -> x.answer(1, 0, 1, 0)), "IndexOutOfBoundsException");
        CHECKS.due("answerCount after refusals", x.answerCount(), 100);
        CHECKS.due("no answer 100", Checks.outcome(() -> x.gradeOf(100)), "IndexOutOfBoundsException");
        CHECKS.due("a mend of a hundred", x.mend(0, 1, 1), 100);
        CHECKS.due("the first of the harmed", x.harmedAt(0), 98);
        CHECKS.due("the second of the harmed", x.harmedAt(1), 0);
        CHECKS.due("the last of the harmed", x.harmedAt(99), 99);
    }

    private static void gradesWithPoints() {
        CourseForge x = new CourseForge();
        x.addCohort(0, 9);
        x.addStudent(0);
        x.addLesson(0, 0);
        x.addExercise(0, 1, 0, 0);
        x.addCase(0, 1, 1);
        x.addCase(0, 2, 1);
        x.addCase(0, 3, 1);
        x.answer(0, 0, 0, 2);
        CHECKS.due("a third, rounded down", x.gradeOf(0), 33);
        CHECKS.due("a third anew", x.gradeAnew(0), 33);
        x.appeal(0);
        CHECKS.due("an appeal does not change the grade", x.gradeOf(0), 33);
        x.decide(20);
        CHECKS.due("points belong to the grade", x.gradeOf(0), 53);
        CHECKS.due("points belong to the grade anew", x.gradeAnew(0), 53);
        x.mend(0, 0, 9);
        CHECKS.due("a mend takes grade and points", x.gradeOf(0), 0);
        CHECKS.due("a mend takes grade and points anew", x.gradeAnew(0), 0);
        x.appeal(0);
        x.decide(100);
        CHECKS.due("points alone", x.gradeOf(0), 100);
        x.mend(0, 0, 2);
        x.appeal(0);
        x.decide(1);
        CHECKS.due("at most 100", x.gradeOf(0), 100);
        CHECKS.due("at most 100 anew", x.gradeAnew(0), 100);
        CHECKS.throwsIndex(x, "gradeOf(-1)", () -> x.gradeOf(-1));
        CHECKS.throwsIndex(x, "gradeOf(1)", () -> x.gradeOf(1));
        CHECKS.throwsIndex(x, "gradeAnew(-1)", () -> x.gradeAnew(-1));
        CHECKS.throwsIndex(x, "gradeAnew(most)", () -> x.gradeAnew(MOST));
    }

    /** The credit of weight 5 for a gap, with each grader, both above and below what is asked. */
    private static void creditOfGraders() {
        int[][] due = {{0, 5, 5, 5}, {1, 0, 2, 3}, {2, 0, 2, 3}, {3, 0, 0, 3}, {9, 0, 0, 3}, {10, 0, 0, 0}, {99, 0, 0, 0}};
        for (int grader = 0; grader <= 2; grader++) {
            for (int[] row : due) {
                CourseForge x = bench(0, grader, 5);
                x.answer(0, 0, 1, row[0]);
                x.answer(0, 0, 1, -row[0]);
                String told = "credit of grader " + grader + " for a gap of " + row[0];
                CHECKS.due(told, x.creditOf(0, 0), row[grader + 1]);
                CHECKS.due(told + " below", x.creditOf(1, 0), row[grader + 1]);
                CHECKS.due(told + " as a grade", x.gradeOf(0), row[grader + 1] * 20);
            }
        }
        int[] halves = {0, 1, 1, 2, 2, 3, 3, 4, 4};
        int[] thirds = {0, 1, 2, 2, 3, 4, 4, 5, 6};
        for (int weight = 1; weight <= 9; weight++) {
            CourseForge half = bench(0, 1, weight);
            half.answer(0, 0, 1, 1);
            CHECKS.due("half of " + weight, half.creditOf(0, 0), halves[weight - 1]);
            CourseForge third = bench(0, 2, weight);
            third.answer(0, 0, 1, 1);
            CHECKS.due("two thirds of " + weight, third.creditOf(0, 0), thirds[weight - 1]);
        }
    }

    private static void creditOfRules() {
        CourseForge x = new CourseForge();
        x.addCohort(0, 0);
        x.addStudent(0);
        x.addLesson(0, 0);
        x.addExercise(0, -9, 99, 2);
        x.addCase(0, 99, 9);
        x.addCase(0, 0, 4);
        x.addCase(0, 11, 2);
        x.answer(0, 0, 0, 0);
        x.answer(0, 0, -9, 99);
        x.answer(0, 0, -8, 99);
        x.answer(0, 0, -9, 90);
        CHECKS.due("credit where both are far apart", x.creditOf(0, 0), 0);
        CHECKS.due("credit where both meet", x.creditOf(0, 2), 2);
        CHECKS.due("grade where both meet once", x.gradeOf(0), 13);
        CHECKS.due("credit for the rule itself", x.creditOf(1, 0), 9);
        CHECKS.due("credit for the input 0", x.creditOf(2, 1), 4);
        CHECKS.due("credit for a gap by the factor", x.creditOf(2, 2), 0);
        CHECKS.due("credit for a gap of 9", x.creditOf(3, 0), 6);
        CHECKS.due("grade of gaps of 9", x.gradeOf(3), 60);
        CHECKS.throwsIndex(x, "creditOf(-1, 0)", () -> x.creditOf(-1, 0));
        CHECKS.throwsIndex(x, "creditOf(4, 9)", () -> x.creditOf(4, 9));
        CHECKS.throwsElement(x, "creditOf(0, -1)", () -> x.creditOf(0, -1));
        CHECKS.throwsElement(x, "creditOf(0, 3)", () -> x.creditOf(0, 3));
        CHECKS.throwsElement(x, "creditOf(0, 6)", () -> x.creditOf(0, 6));
        CHECKS.throwsElement(x, "creditOf(0, least)", () -> x.creditOf(0, LEAST));
        x.mend(0, 0, 0);
        CHECKS.due("credit after a mend", x.creditOf(0, 0), 9);
        CHECKS.due("credit after a mend, of another", x.creditOf(1, 0), 0);
    }

    private static void studentsAndDays() {
        CourseForge x = bench(3, 0, 1);
        x.addStudent(0);
        x.answer(1, 0, 0, 0);
        x.pass(4);
        x.answer(0, 0, 0, 0);
        x.pass(2);
        CHECKS.due("studentOf(0)", x.studentOf(0), 1);
        CHECKS.due("studentOf(1)", x.studentOf(1), 0);
        CHECKS.due("dayOf(0)", x.dayOf(0), 0);
        CHECKS.due("dayOf(1)", x.dayOf(1), 4);
        x.mend(0, 0, 0);
        CHECKS.due("dayOf(0) after a mend", x.dayOf(0), 0);
        CHECKS.throwsIndex(x, "studentOf(-1)", () -> x.studentOf(-1));
        CHECKS.throwsIndex(x, "studentOf(2)", () -> x.studentOf(2));
        CHECKS.throwsIndex(x, "dayOf(-1)", () -> x.dayOf(-1));
        CHECKS.throwsIndex(x, "dayOf(2)", () -> x.dayOf(2));
    }

    private static void bestAnswer() {
        CourseForge x = bench(9, 2, 3);
        x.addStudent(0);
        x.addExercise(0, 1, 0, 0);
        CHECKS.throwsElement(x, "bestAnswer without an answer", () -> x.bestAnswer(0, 0));
        x.answer(0, 0, 1, 50);
        CHECKS.due("bestAnswer, worth 0", x.bestAnswer(0, 0), 0);
        CHECKS.throwsElement(x, "bestAnswer of another student", () -> x.bestAnswer(1, 0));
        CHECKS.throwsElement(x, "bestAnswer of another exercise", () -> x.bestAnswer(0, 1));
        x.answer(1, 0, 1, 0);
        x.answer(0, 0, 1, 0);
        x.answer(0, 0, 1, 0);
        CHECKS.due("bestAnswer, of equals the lowest", x.bestAnswer(0, 0), 2);
        x.pass(3);
        x.answer(0, 0, 1, 1);
        CHECKS.due("bestAnswer, 73 ahead of 66", x.bestAnswer(0, 0), 2);
        x.pass(1);
        CHECKS.due("bestAnswer, 64 ahead of 57", x.bestAnswer(0, 0), 2);
        x.pass(1);
        x.answer(0, 0, 1, 1);
        CHECKS.due("bestAnswer, 66 ahead of 55", x.bestAnswer(0, 0), 5);
        x.pass(6);
        CHECKS.due("bestAnswer, 12 ahead of 1", x.bestAnswer(0, 0), 5);
        x.pass(2);
        CHECKS.due("bestAnswer, all worth 0", x.bestAnswer(0, 0), 0);
        CHECKS.throwsIndex(x, "bestAnswer(-1, 0)", () -> x.bestAnswer(-1, 0));
        CHECKS.throwsIndex(x, "bestAnswer(2, 0)", () -> x.bestAnswer(2, 0));
        CHECKS.throwsIndex(x, "bestAnswer(0, -1)", () -> x.bestAnswer(0, -1));
        CHECKS.throwsIndex(x, "bestAnswer(0, 2)", () -> x.bestAnswer(0, 2));
    }
}
