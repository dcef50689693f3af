/** Promises 1 to 8: a new object, cohorts, students, lessons, exercises and cases. */
public final class StructureTest {
    private static final Scripts SCRIPTS = new Scripts();

    /** A student of the days 0 to 9, a lesson without decay and an exercise x + 0 without cases. */
    private static final String BENCH = """
            addCohort 0 9
            addStudent 0
            addLesson 0 0
            addExercise 0 1 0 0
            """;

    public static void main(String[] args) {
        newObject();
        lastCall();
        addCohort();
        addStudent();
        addLesson();
        addLessonRefused();
        addExercise();
        addExerciseRefused();
        addCase();
        addCaseRefused();
        versionOf();
        openLessons();
        SCRIPTS.finish("StructureTest");
    }

    private static void newObject() {
        SCRIPTS.due(1, "a new object has no cohorts", """
                addStudent 0 throws IndexOutOfBoundsException
                addCohort 1 1 = 0
                addStudent 0 = 0
                """);
        SCRIPTS.due(1, "a new object has no students", """
                openLessons 0 throws IndexOutOfBoundsException
                addCohort 0 0
                addLesson 0 0
                addExercise 0 0 0 0
                addCourse 1 1
                reason 0 0 throws IndexOutOfBoundsException
                mastery 0 0 throws IndexOutOfBoundsException
                issue 0 0 throws IndexOutOfBoundsException
                addStudent 0 = 0
                """);
        SCRIPTS.due(1, "a new object has no lessons", """
                versionOf 0 throws IndexOutOfBoundsException
                addExercise 0 0 0 0 throws IndexOutOfBoundsException
                addLesson 1 0 throws IllegalArgumentException
                addCourse 1 1 throws IllegalArgumentException
                addLesson 0 0 = 0
                """);
        SCRIPTS.due(1, "a new object has no exercises", """
                addCase 0 0 1 throws IndexOutOfBoundsException
                mend 0 0 0 throws IndexOutOfBoundsException
                addLesson 0 0
                addExercise 0 0 0 0 = 0
                """);
        SCRIPTS.due(1, "a new object is on the day 0", "today = 0");
        SCRIPTS.due(1, "a new object has no answers, appeals, courses and certificates", """
                answerCount = 0
                gradeOf 0 throws IndexOutOfBoundsException
                appealCount = 0
                harmedCount = 0
                doesStand 0 throws IndexOutOfBoundsException
                revoked = 0
                isConsistent = true
                addLesson 0 0
                addCourse 1 1 = 0
                """);
    }

    private static void lastCall() {
        SCRIPTS.due(1, "the 512th call of an object is answered as the calls before it are", BENCH + """
                addCase 0 1 1
                answer 0 0 0 6
                99 x mend 0 2 #
                99 x mend 0 3 #
                99 x mend 0 4 #
                99 x mend 0 5 #
                99 x mend 0 6 #
                versionOf 0 = 495
                answerCount = 1
                gradeOf 0 = 0
                today = 0
                harmedCount = 1
                addCohort 0 0 = 1
                addStudent 1 = 1
                addLesson 1 9 = 1
                addExercise 1 0 0 0 = 1
                addCourse 3 1 = 0
                calls = 511
                mend 0 0 6 = 1
                """);
    }

    private static void addCohort() {
        SCRIPTS.due(2, "the first day is 0 to 999", """
                addCohort -1 0 throws IllegalArgumentException
                addCohort -1 -1 throws IllegalArgumentException
                addCohort least 0 throws IllegalArgumentException
                addCohort least most throws IllegalArgumentException
                addCohort 0 0 = 0
                addCohort 1 999 = 1
                addCohort 999 999 = 2
                addCohort 1000 1000 throws IllegalArgumentException
                addCohort 1000 999 throws IllegalArgumentException
                addCohort most most throws IllegalArgumentException
                """);
        SCRIPTS.due(2, "the last day is the first one to 999", """
                addCohort 7 6 throws IllegalArgumentException
                addCohort 1 0 throws IllegalArgumentException
                addCohort 0 -1 throws IllegalArgumentException
                addCohort 999 998 throws IllegalArgumentException
                addCohort 0 1000 throws IllegalArgumentException
                addCohort 0 most throws IllegalArgumentException
                addCohort 0 least throws IllegalArgumentException
                addCohort 7 7 = 0
                addCohort 7 8 = 1
                addCohort 0 999 = 2
                addCohort 998 999 = 3
                """);
        SCRIPTS.due(2, "at most 4 cohorts are numbered from 0", """
                4 x addCohort # 9 = #
                addCohort 0 9 throws IllegalStateException
                addCohort 999 999 throws IllegalStateException
                """);
        SCRIPTS.due(2, "a day out of range comes ahead of 4 cohorts", """
                4 x addCohort 0 9
                addCohort -1 9 throws IllegalArgumentException
                addCohort 9 8 throws IllegalArgumentException
                addCohort 9 1000 throws IllegalArgumentException
                """);
    }

    private static void addStudent() {
        SCRIPTS.due(3, "there is no such cohort", """
                addStudent 0 throws IndexOutOfBoundsException
                addCohort 0 9
                addStudent 1 throws IndexOutOfBoundsException
                addCohort 0 9
                addStudent -1 throws IndexOutOfBoundsException
                addStudent least throws IndexOutOfBoundsException
                addStudent 0 = 0
                addStudent 1 = 1
                addStudent 2 throws IndexOutOfBoundsException
                addStudent most throws IndexOutOfBoundsException
                """);
        SCRIPTS.due(3, "4 cohorts have students", """
                4 x addCohort # #
                4 x addStudent # = #
                addStudent 4 throws IndexOutOfBoundsException
                """);
        SCRIPTS.due(3, "each student belongs to a cohort", """
                addLesson 0 0
                addExercise 0 1 0 0
                addCase 0 1 1
                addCohort 0 9
                addCohort 5 9
                addStudent 1
                addStudent 0
                reason 0 0 = d
                reason 1 0 = -
                """);
        SCRIPTS.due(3, "at most 8 students are numbered from 0", """
                addCohort 0 9
                addCohort 5 9
                8 x addStudent 0 = #
                addStudent 0 throws IllegalStateException
                addStudent 1 throws IllegalStateException
                openLessons 7 = 0
                openLessons 8 throws IndexOutOfBoundsException
                """);
        SCRIPTS.due(3, "no such cohort comes ahead of 8 students", """
                addCohort 0 9
                8 x addStudent 0
                addStudent 1 throws IndexOutOfBoundsException
                addStudent -1 throws IndexOutOfBoundsException
                """);
    }

    private static void addLesson() {
        SCRIPTS.due(4, "a lesson needs lessons that were added before it", """
                addLesson 0 0 = 0
                addLesson 1 0 = 1
                addLesson 3 0 = 2
                addLesson 5 0 = 3
                addLesson 15 0 = 4
                addLesson 16 0 = 5
                addLesson 63 0 = 6
                addLesson 127 0 = 7
                """);
        SCRIPTS.due(4, "a lesson needs no lessons", "8 x addLesson 0 0 = #");
        SCRIPTS.due(4, "a lesson does not need itself or a later one", """
                addLesson 1 0 throws IllegalArgumentException
                addLesson 0 0
                addLesson 2 0 throws IllegalArgumentException
                addLesson 3 0 throws IllegalArgumentException
                addLesson 4 0 throws IllegalArgumentException
                addLesson 1 0
                addLesson 4 0 throws IllegalArgumentException
                addLesson 7 0 throws IllegalArgumentException
                5 x addLesson 3 0
                addLesson 128 0 throws IllegalArgumentException
                addLesson 255 0 throws IllegalArgumentException
                """);
        SCRIPTS.due(4, "a sum is below 0 or above all lessons", """
                addLesson 0 0
                addLesson -1 0 throws IllegalArgumentException
                addLesson least 0 throws IllegalArgumentException
                addLesson most 0 throws IllegalArgumentException
                addLesson -2147483647 0 throws IllegalArgumentException
                addLesson 65536 0 throws IllegalArgumentException
                addLesson 256 0 throws IllegalArgumentException
                """);
        SCRIPTS.due(4, "the decay is 0 to 9", """
                addLesson 0 -1 throws IllegalArgumentException
                addLesson 0 least throws IllegalArgumentException
                addLesson 0 0 = 0
                addLesson 0 1 = 1
                addLesson 0 9 = 2
                addLesson 0 10 throws IllegalArgumentException
                addLesson 0 most throws IllegalArgumentException
                """);
    }

    private static void addLessonRefused() {
        SCRIPTS.due(4, "at most 8 lessons are numbered from 0", """
                8 x addLesson 0 9 = #
                addLesson 0 0 throws IllegalStateException
                addLesson 128 0 throws IllegalStateException
                addLesson 255 9 throws IllegalStateException
                versionOf 7 = 0
                versionOf 8 throws IndexOutOfBoundsException
                """);
        SCRIPTS.due(4, "an argument out of range comes ahead of 8 lessons", """
                8 x addLesson 0 9
                addLesson 256 9 throws IllegalArgumentException
                addLesson least 9 throws IllegalArgumentException
                addLesson 0 10 throws IllegalArgumentException
                addLesson 0 -1 throws IllegalArgumentException
                """);
    }

    private static void addExercise() {
        SCRIPTS.due(5, "there is no such lesson", """
                addExercise 0 0 0 0 throws IndexOutOfBoundsException
                2 x addLesson 0 0
                addExercise -1 0 0 0 throws IndexOutOfBoundsException
                addExercise least 0 0 0 throws IndexOutOfBoundsException
                addExercise 0 0 0 0 = 0
                addExercise 1 0 0 0 = 1
                addExercise 2 0 0 0 throws IndexOutOfBoundsException
                addExercise most 0 0 0 throws IndexOutOfBoundsException
                """);
        SCRIPTS.due(5, "an exercise is added to its lesson, without cases", """
                addCohort 0 9
                addStudent 0
                2 x addLesson 0 0
                addExercise 1 0 0 0
                mastery 0 0 = 100
                mastery 0 1 = 0
                reason 0 0 = c
                """);
        SCRIPTS.due(5, "the factor is -9 to 9", """
                addLesson 0 0
                addExercise 0 -10 0 0 throws IllegalArgumentException
                addExercise 0 least 0 0 throws IllegalArgumentException
                addExercise 0 -9 0 0 = 0
                addExercise 0 9 0 0 = 1
                addExercise 0 10 0 0 throws IllegalArgumentException
                addExercise 0 most 0 0 throws IllegalArgumentException
                """);
        SCRIPTS.due(5, "the addend is -99 to 99", """
                addLesson 0 0
                addExercise 0 0 -100 0 throws IllegalArgumentException
                addExercise 0 0 least 0 throws IllegalArgumentException
                addExercise 0 0 -99 0 = 0
                addExercise 0 0 99 0 = 1
                addExercise 0 0 100 0 throws IllegalArgumentException
                addExercise 0 0 most 0 throws IllegalArgumentException
                """);
        SCRIPTS.due(5, "the grader is 0 to 2", """
                addLesson 0 0
                addExercise 0 0 0 -1 throws IllegalArgumentException
                addExercise 0 0 0 least throws IllegalArgumentException
                3 x addExercise 0 0 0 # = #
                addExercise 0 0 0 3 throws IllegalArgumentException
                addExercise 0 0 0 most throws IllegalArgumentException
                """);
    }

    private static void addExerciseRefused() {
        SCRIPTS.due(5, "at most 12 exercises are numbered from 0", """
                2 x addLesson 0 0
                12 x addExercise 1 9 99 2 = #
                addExercise 0 0 0 0 throws IllegalStateException
                addExercise 1 -9 -99 1 throws IllegalStateException
                addCase 11 0 1 = 1
                addCase 12 0 1 throws IndexOutOfBoundsException
                """);
        SCRIPTS.due(5, "no such lesson comes ahead of an argument out of range and of 12 exercises", """
                addLesson 0 0
                addExercise 1 10 0 0 throws IndexOutOfBoundsException
                addExercise 1 0 100 0 throws IndexOutOfBoundsException
                addExercise -1 0 0 3 throws IndexOutOfBoundsException
                12 x addExercise 0 0 0 0
                addExercise 1 0 0 0 throws IndexOutOfBoundsException
                addExercise -1 10 100 3 throws IndexOutOfBoundsException
                """);
        SCRIPTS.due(5, "an argument out of range comes ahead of 12 exercises", """
                addLesson 0 0
                12 x addExercise 0 0 0 0
                addExercise 0 -10 0 0 throws IllegalArgumentException
                addExercise 0 0 100 0 throws IllegalArgumentException
                addExercise 0 0 0 3 throws IllegalArgumentException
                """);
    }

    private static void addCase() {
        SCRIPTS.due(6, "there is no such exercise", """
                addCase 0 0 1 throws IndexOutOfBoundsException
                addLesson 0 0
                2 x addExercise 0 1 0 0
                addCase -1 0 1 throws IndexOutOfBoundsException
                addCase least 0 1 throws IndexOutOfBoundsException
                addCase 0 0 1 = 1
                addCase 1 0 1 = 1
                addCase 2 0 1 throws IndexOutOfBoundsException
                addCase most 0 1 throws IndexOutOfBoundsException
                """);
        SCRIPTS.due(6, "the input is 0 to 99", BENCH + """
                addCase 0 -1 1 throws IllegalArgumentException
                addCase 0 least 1 throws IllegalArgumentException
                addCase 0 0 1 = 1
                addCase 0 99 1 = 2
                addCase 0 100 1 throws IllegalArgumentException
                addCase 0 most 1 throws IllegalArgumentException
                """);
        SCRIPTS.due(6, "the weight is 1 to 9", BENCH + """
                addCase 0 0 0 throws IllegalArgumentException
                addCase 0 0 -1 throws IllegalArgumentException
                addCase 0 0 least throws IllegalArgumentException
                addCase 0 0 1 = 1
                addCase 0 0 9 = 2
                addCase 0 0 10 throws IllegalArgumentException
                addCase 0 0 most throws IllegalArgumentException
                """);
        SCRIPTS.due(6, "it returns the number of cases of the exercise", BENCH + """
                addExercise 0 1 0 0
                addCase 0 5 5 = 1
                addCase 0 5 5 = 2
                addCase 1 5 5 = 1
                addCase 0 5 5 = 3
                addCase 1 5 5 = 2
                """);
    }

    private static void addCaseRefused() {
        SCRIPTS.due(6, "there are 6 cases", BENCH + """
                addExercise 0 1 0 0
                5 x addCase 0 # 9
                addCase 0 5 9 = 6
                addCase 0 0 1 throws IllegalStateException
                addCase 0 99 9 throws IllegalStateException
                addCase 1 0 1 = 1
                """);
        SCRIPTS.due(6, "there is an answer to the exercise", BENCH + """
                addExercise 0 1 0 0
                addStudent 0
                addCase 0 1 1
                addCase 1 1 1
                answer 1 0 0 99
                addCase 0 1 1 throws IllegalStateException
                addCase 1 1 1 = 2
                mend 0 2 2
                addCase 0 1 1 throws IllegalStateException
                pass 10
                addCase 0 1 1 throws IllegalStateException
                """);
        SCRIPTS.due(6, "there are 6 cases and an answer", BENCH + """
                6 x addCase 0 # 1
                answer 0 0 1 0
                addCase 0 0 1 throws IllegalStateException
                """);
        SCRIPTS.due(6, "no such exercise comes ahead of an argument out of range", BENCH + """
                addCase 1 100 1 throws IndexOutOfBoundsException
                addCase -1 0 0 throws IndexOutOfBoundsException
                """);
        SCRIPTS.due(6, "an argument out of range comes ahead of 6 cases and of an answer", BENCH + """
                6 x addCase 0 # 1
                addCase 0 -1 1 throws IllegalArgumentException
                addCase 0 0 10 throws IllegalArgumentException
                addExercise 0 1 0 0
                addCase 1 0 1
                answer 0 1 0 0
                addCase 1 100 1 throws IllegalArgumentException
                addCase 1 0 0 throws IllegalArgumentException
                """);
    }

    private static void versionOf() {
        SCRIPTS.due(7, "there is no such lesson", """
                versionOf 0 throws IndexOutOfBoundsException
                2 x addLesson 0 0
                versionOf -1 throws IndexOutOfBoundsException
                versionOf least throws IndexOutOfBoundsException
                versionOf 0 = 0
                versionOf 1 = 0
                versionOf 2 throws IndexOutOfBoundsException
                versionOf most throws IndexOutOfBoundsException
                """);
        SCRIPTS.due(7, "it is 0 without a mend, and counts each mend of each exercise of the lesson", BENCH + """
                addLesson 0 0
                addExercise 0 1 0 0
                addExercise 1 1 0 0
                versionOf 0 = 0
                mend 0 2 0
                versionOf 0 = 1
                mend 1 1 1
                mend 0 1 0
                versionOf 0 = 3
                versionOf 1 = 0
                mend 2 0 0
                versionOf 0 = 3
                versionOf 1 = 1
                """);
        SCRIPTS.due(7, "a mend that is refused does not count", BENCH + """
                mend 0 2 0
                mend 0 2 0 throws IllegalStateException
                mend 0 10 0 throws IllegalArgumentException
                versionOf 0 = 1
                """);
    }

    private static void openLessons() {
        SCRIPTS.due(8, "there is no such student", """
                openLessons 0 throws IndexOutOfBoundsException
                addCohort 0 9
                2 x addStudent 0
                openLessons -1 throws IndexOutOfBoundsException
                openLessons least throws IndexOutOfBoundsException
                openLessons 0 = 0
                openLessons 1 = 0
                openLessons 2 throws IndexOutOfBoundsException
                openLessons most throws IndexOutOfBoundsException
                """);
        SCRIPTS.due(8, "0 of no lessons, 8 of 8 lessons, on days that are not the cohort's", """
                addCohort 5 5
                addStudent 0
                openLessons 0 = 0
                addLesson 0 0
                openLessons 0 = 1
                7 x addLesson 1 0
                openLessons 0 = 8
                """);
        SCRIPTS.due(8, "a lesson is open at a mastery of 50, not of 49", BENCH + """
                addLesson 0 1
                addLesson 2 0
                addExercise 1 1 0 0
                addCase 1 0 1
                addCase 1 3 1
                openLessons 0 = 2
                answer 0 1 0 0
                mastery 0 1 = 50
                openLessons 0 = 3
                pass 1
                mastery 0 1 = 49
                openLessons 0 = 2
                """);
        SCRIPTS.due(8, "a lesson is open by the mastery in each lesson that it needs", BENCH + """
                addLesson 0 0
                addExercise 1 1 0 0
                2 x addCase # 1 1
                addLesson 3 0
                openLessons 0 = 2
                answer 0 1 1 0
                openLessons 0 = 2
                answer 0 0 1 0
                openLessons 0 = 3
                mend 1 2 0
                openLessons 0 = 2
                """);
        SCRIPTS.due(8, "what is needed for a lesson that is needed does not count", BENCH + """
                addLesson 1 0
                addLesson 2 0
                openLessons 0 = 2
                """);
        SCRIPTS.due(8, "the mastery of another student does not count", BENCH + """
                addStudent 0
                addCase 0 1 1
                addLesson 1 0
                answer 1 0 1 0
                openLessons 0 = 1
                openLessons 1 = 2
                """);
    }
}
