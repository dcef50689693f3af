/** Promises 25 to 32: mends, courses and certificates. */
public final class CertificatesTest {
    private static final Scripts SCRIPTS = new Scripts();

    /**
     * Two students, the lessons 0 and 1 with the decays 5 and 0, an exercise x + 0 of each with the inputs
     * 0 and 8: an answer 0 x + 0 has the grade 50, x + 0 has 100, and 9 x + 9 has 0.
     */
    private static final String BENCH = """
            addCohort 0 999
            2 x addStudent 0
            addLesson 0 5
            addLesson 0 0
            2 x addExercise # 1 0 0
            2 x addCase # 0 1
            2 x addCase # 8 1
            """;

    /** A student, a lesson and an exercise 0 x + 1; an answer can have the grades 0, 25, 50 and 100. */
    private static final String QUARTERS = """
            addCohort 0 99
            addStudent 0
            addLesson 0 0
            addExercise 0 0 1 0
            addCase 0 0 1
            addCase 0 1 2
            addCase 0 2 1
            """;

    public static void main(String[] args) {
        mendOutOfRange();
        mend();
        harmedCount();
        harmedAt();
        harmedInOrder();
        addCourse();
        issueRefused();
        issue();
        thirtyCertificates();
        doesStand();
        certificateOf();
        revokedByGrades();
        revokedByTheDayOfIssue();
        revokedByWhatThereWas();
        revoked();
        SCRIPTS.finish("CertificatesTest");
    }

    private static void mendOutOfRange() {
        SCRIPTS.due(25, "there is no such exercise", BENCH + """
                mend -1 2 0 throws IndexOutOfBoundsException
                mend least 2 0 throws IndexOutOfBoundsException
                mend 0 2 0 = 0
                mend 1 2 0 = 0
                mend 2 2 0 throws IndexOutOfBoundsException
                mend most 2 0 throws IndexOutOfBoundsException
                """);
        SCRIPTS.due(25, "the factor is -9 to 9", BENCH + """
                mend 0 -10 0 throws IllegalArgumentException
                mend 0 least 0 throws IllegalArgumentException
                mend 0 -9 0 = 0
                mend 0 9 0 = 0
                mend 0 10 0 throws IllegalArgumentException
                mend 0 most 0 throws IllegalArgumentException
                """);
        SCRIPTS.due(25, "the addend is -99 to 99", BENCH + """
                mend 0 1 -100 throws IllegalArgumentException
                mend 0 1 least throws IllegalArgumentException
                mend 0 1 -99 = 0
                mend 0 1 99 = 0
                mend 0 1 100 throws IllegalArgumentException
                mend 0 1 most throws IllegalArgumentException
                """);
        SCRIPTS.due(25, "this is its rule already", BENCH + """
                answer 0 0 1 0
                mend 0 1 0 throws IllegalStateException
                mend 0 2 0 = 1
                mend 0 2 0 throws IllegalStateException
                mend 0 1 0 = 1
                """);
        SCRIPTS.due(25, "another rule by the factor alone, by the addend alone, and by both turned", BENCH + """
                mend 0 2 0 = 0
                mend 0 2 1 = 0
                mend 0 1 2 = 0
                mend 0 1 2 throws IllegalStateException
                """);
        SCRIPTS.due(25, "the rule of another exercise is another rule", BENCH + """
                mend 0 2 0 = 0
                mend 1 2 0 = 0
                """);
        SCRIPTS.due(25, "no such exercise comes ahead of a rule out of range", BENCH + """
                mend 2 10 0 throws IndexOutOfBoundsException
                mend -1 0 -100 throws IndexOutOfBoundsException
                """);
    }

    private static void mend() {
        SCRIPTS.due(25, "0 without answers, and of answers whose grade stays", BENCH + """
                mend 0 2 0 = 0
                answer 0 0 9 9
                answer 0 1 1 0
                mend 0 3 0 = 0
                gradeOf 0 = 0
                """);
        SCRIPTS.due(25, "the answers whose grade falls or rises count, others do not", BENCH + """
                answer 0 0 1 0
                answer 1 0 2 0
                answer 0 1 1 0
                answer 1 0 9 9
                mend 0 2 0 = 2
                gradeOf 0 = 50
                gradeOf 1 = 100
                gradeOf 2 = 100
                gradeOf 3 = 0
                """);
        SCRIPTS.due(25, "a grade that falls by its points alone becomes another one", BENCH + """
                answer 0 0 9 9
                appeal 0
                decide 1
                mend 0 2 0 = 1
                gradeOf 0 = 0
                """);
        SCRIPTS.due(25, "a grade that rises by just the points that it loses does not", BENCH + """
                answer 0 0 0 0
                answer 0 0 9 9
                appeal 0
                decide 50
                gradeOf 0 = 100
                mend 0 0 0 = 0
                gradeOf 0 = 100
                appeal 1
                decide 100
                mend 0 9 9 = 1
                gradeOf 0 = 0
                gradeOf 1 = 100
                """);
        SCRIPTS.due(25, "a full grade that loses points beyond 100 stays", BENCH + """
                answer 0 0 1 0
                addLesson 0 0
                addExercise 2 1 0 0
                addCase 2 0 1
                answer 0 2 1 0
                appeal 1
                decide 10
                mend 2 2 0 = 0
                harmed = 1
                writeAnswer 1
                line = answer 1: 100 passed
                """);
    }

    private static void harmedCount() {
        SCRIPTS.due(26, "0 without a mend", BENCH + """
                harmedCount = 0
                answer 0 0 1 0
                harmedCount = 0
                """);
        SCRIPTS.due(26, "all answers to the exercise count, also those whose grade stays", BENCH + """
                answer 0 0 9 9
                answer 0 0 1 0
                answer 0 1 1 0
                mend 0 1 1
                harmedCount = 2
                """);
        SCRIPTS.due(26, "of the latest mend, though answers come after it or a mend is refused", BENCH + """
                answer 0 0 1 0
                mend 0 2 0
                answer 0 0 1 0
                mend 0 2 0 throws IllegalStateException
                mend 0 10 0 throws IllegalArgumentException
                mend 2 1 0 throws IndexOutOfBoundsException
                harmedCount = 1
                mend 0 3 0
                harmedCount = 2
                """);
        SCRIPTS.due(26, "0 after a mend of an exercise without answers", BENCH + """
                answer 0 0 1 0
                mend 0 2 0
                mend 1 2 0
                harmedCount = 0
                """);
        SCRIPTS.due(26, "100 answers", BENCH + """
                98 x answer 0 0 1 1
                answer 0 0 1 0
                answer 0 0 1 1
                mend 0 1 1 = 100
                harmedCount = 100
                harmedAt 0 = 98
                harmedAt 1 = 0
                harmedAt 98 = 97
                harmedAt 99 = 99
                harmedAt 100 throws IndexOutOfBoundsException
                """);
    }

    private static void harmedAt() {
        SCRIPTS.due(27, "there is no such position", BENCH + """
                harmedAt 0 throws IndexOutOfBoundsException
                2 x answer 0 0 1 0
                harmedAt 0 throws IndexOutOfBoundsException
                mend 0 2 0
                harmedAt -1 throws IndexOutOfBoundsException
                harmedAt least throws IndexOutOfBoundsException
                harmedAt 0 = 0
                harmedAt 1 = 1
                harmedAt 2 throws IndexOutOfBoundsException
                harmedAt most throws IndexOutOfBoundsException
                mend 1 2 0
                harmedAt 0 throws IndexOutOfBoundsException
                """);
    }

    private static void harmedInOrder() {
        SCRIPTS.due(27, "those that fall the most first, those that rise the most last, with points", QUARTERS + """
                answer 0 0 0 2
                answer 0 0 1 1
                answer 0 0 0 1
                answer 0 0 0 2
                answer 0 0 2 2
                answer 0 0 0 1
                answer 0 0 -1 2
                answer 0 0 -1 2
                appeal 7
                decide 30
                mend 0 0 2 = 8
                harmed = 2 5 7 6 1 4 0 3
                """);
        SCRIPTS.due(27, "those that stay between those that fall and those that rise", QUARTERS + """
                answer 0 0 0 2
                answer 0 0 0 9
                answer 0 0 0 1
                mend 0 0 2 = 2
                harmed = 2 1 0
                """);
        SCRIPTS.due(27, "of several alike, those with lower numbers first", QUARTERS + """
                answer 0 0 0 2
                answer 0 0 0 1
                answer 0 0 0 9
                answer 0 0 0 1
                answer 0 0 0 2
                answer 0 0 0 9
                mend 0 0 2 = 4
                harmed = 1 3 2 5 0 4
                mend 0 0 9
                harmed = 0 4 1 3 2 5
                """);
        SCRIPTS.due(27, "a fall of 1 comes ahead of none, and none ahead of a rise of 25", QUARTERS + """
                answer 0 0 2 2
                2 x answer 0 0 0 9
                appeal 2
                decide 1
                mend 0 0 2
                harmed = 2 1 0
                """);
        SCRIPTS.due(27, "a fall that points beyond 100 would have made greater", QUARTERS + """
                answer 0 0 -1 2
                answer 0 0 0 1
                2 x appeal #
                decide 50
                decide 100
                mend 0 9 9
                harmed = 0 1
                """);
    }

    private static void addCourse() {
        SCRIPTS.due(28, "it has no lessons", BENCH + """
                addCourse 0 50 throws IllegalArgumentException
                addCourse 1 50 = 0
                """);
        SCRIPTS.due(28, "a lesson does not exist", """
                addCourse 1 50 throws IllegalArgumentException
                2 x addLesson 0 0
                addCourse 4 50 throws IllegalArgumentException
                addCourse 5 50 throws IllegalArgumentException
                addCourse -1 50 throws IllegalArgumentException
                addCourse least 50 throws IllegalArgumentException
                addCourse most 50 throws IllegalArgumentException
                addCourse 65536 50 throws IllegalArgumentException
                addCourse 3 50 = 0
                addCourse 2 50 = 1
                addLesson 0 0
                addCourse 4 50 = 2
                """);
        SCRIPTS.due(28, "all of 8 lessons exist, and no ninth", """
                8 x addLesson 0 0
                addCourse 255 50 = 0
                addCourse 128 50 = 1
                addCourse 256 50 throws IllegalArgumentException
                addCourse 511 50 throws IllegalArgumentException
                """);
        SCRIPTS.due(28, "the mastery is 1 to 100", BENCH + """
                addCourse 1 0 throws IllegalArgumentException
                addCourse 1 -1 throws IllegalArgumentException
                addCourse 1 least throws IllegalArgumentException
                addCourse 1 1 = 0
                addCourse 1 100 = 1
                addCourse 1 101 throws IllegalArgumentException
                addCourse 1 most throws IllegalArgumentException
                """);
        SCRIPTS.due(28, "at most 4 courses are numbered from 0", BENCH + """
                4 x addCourse 3 100 = #
                addCourse 3 100 throws IllegalStateException
                addCourse 1 1 throws IllegalStateException
                issue 0 3 throws UnsupportedOperationException
                issue 0 4 throws IndexOutOfBoundsException
                """);
        SCRIPTS.due(28, "an argument out of range comes ahead of 4 courses", BENCH + """
                4 x addCourse 1 1
                addCourse 0 1 throws IllegalArgumentException
                addCourse 4 1 throws IllegalArgumentException
                addCourse 1 0 throws IllegalArgumentException
                addCourse 1 101 throws IllegalArgumentException
                """);
    }

    private static void issueRefused() {
        SCRIPTS.due(29, "there is no such student", BENCH + """
                addLesson 0 0
                addCourse 4 50
                issue -1 0 throws IndexOutOfBoundsException
                issue least 0 throws IndexOutOfBoundsException
                issue 0 0 = 0
                issue 1 0 = 1
                issue 2 0 throws IndexOutOfBoundsException
                issue most 0 throws IndexOutOfBoundsException
                """);
        SCRIPTS.due(29, "there is no such course", BENCH + """
                issue 0 0 throws IndexOutOfBoundsException
                addLesson 0 0
                2 x addCourse 4 50
                issue 0 -1 throws IndexOutOfBoundsException
                issue 0 least throws IndexOutOfBoundsException
                issue 0 0 = 0
                issue 0 1 = 1
                issue 0 2 throws IndexOutOfBoundsException
                issue 0 most throws IndexOutOfBoundsException
                """);
        SCRIPTS.due(29, "the student has one of this course that stands", BENCH + """
                addCourse 1 50
                addCourse 1 50
                answer 0 0 1 0
                answer 1 0 1 0
                issue 0 0 = 0
                issue 0 0 throws IllegalStateException
                issue 0 1 = 1
                issue 1 0 = 2
                issue 0 0 throws IllegalStateException
                """);
        SCRIPTS.due(29, "one of this course that does not stand any more is no hindrance", BENCH + """
                addCourse 1 50
                answer 0 0 1 0
                issue 0 0 = 0
                mend 0 9 9
                mend 0 1 0
                doesStand 0 = false
                issue 0 0 = 1
                issue 0 0 throws IllegalStateException
                """);
        SCRIPTS.due(29, "one that stands comes ahead of a mastery that is not enough", BENCH + """
                addCourse 1 50
                answer 0 0 0 0
                issue 0 0 = 0
                pass 1
                mastery 0 0 = 45
                issue 0 0 throws IllegalStateException
                """);
    }

    private static void issue() {
        SCRIPTS.due(29, "the mastery of today is just enough, and one too small", BENCH + """
                addCourse 1 50
                addCourse 1 51
                addCourse 1 49
                issue 0 0 throws UnsupportedOperationException
                answer 0 0 0 0
                mastery 0 0 = 50
                issue 0 1 throws UnsupportedOperationException
                issue 0 0 = 0
                issue 0 2 = 1
                """);
        SCRIPTS.due(29, "the mastery of 1 and of 100", BENCH + """
                addCourse 2 1
                addCourse 2 100
                issue 0 0 throws UnsupportedOperationException
                answer 0 1 9 9
                issue 0 0 throws UnsupportedOperationException
                appeal 0
                decide 1
                issue 0 0 = 0
                answer 1 1 9 9
                appeal 1
                decide 99
                issue 1 1 throws UnsupportedOperationException
                answer 1 1 1 0
                issue 1 1 = 1
                """);
        SCRIPTS.due(29, "the mastery is not enough in one of the lessons, be it the first or the last", BENCH + """
                addCourse 3 50
                answer 0 0 1 0
                issue 0 0 throws UnsupportedOperationException
                answer 1 1 1 0
                issue 1 0 throws UnsupportedOperationException
                answer 0 1 0 0
                issue 0 0 = 0
                """);
        SCRIPTS.due(29, "the mastery of today, not of a day before", BENCH + """
                addCourse 1 95
                answer 0 0 1 0
                pass 2
                issue 0 0 throws UnsupportedOperationException
                answer 1 0 1 0
                pass 1
                issue 1 0 = 0
                """);
        SCRIPTS.due(29, "a lesson without exercises has the mastery 100, on a day that is not the cohort's", """
                addCohort 5 5
                addStudent 0
                addLesson 0 9
                addCourse 1 100
                issue 0 0 = 0
                """);
    }

    private static void thirtyCertificates() {
        String thirty = """
                addCohort 0 0
                2 x addLesson 0 0
                8 x addStudent 0
                4 x addCourse 1 100
                8 x issue # 0 = #
                8 x issue # 1
                8 x issue # 2
                6 x issue # 3
                certificateOf 5 3 = 29
                """;
        SCRIPTS.due(29, "at most 30 certificates are numbered from 0", thirty + """
                issue 6 3 throws IllegalStateException
                doesStand 29 = true
                doesStand 30 throws IndexOutOfBoundsException
                standingShare = 1.0
                revoked = 0
                """);
        SCRIPTS.due(29, "no such student or course comes ahead of 30 certificates", thirty + """
                issue 8 3 throws IndexOutOfBoundsException
                issue 6 4 throws IndexOutOfBoundsException
                """);
        SCRIPTS.due(29, "30 certificates come ahead of a mastery that is not enough", thirty + """
                addExercise 0 1 0 0
                issue 6 3 throws IllegalStateException
                issue 0 0 throws IllegalStateException
                """);
        String oneByOne = BENCH + """
                addCourse 1 100
                answer 0 0 1 0
                """ + """
                issue 0 0
                mend 0 2 0
                mend 0 1 0
                """.repeat(29);
        SCRIPTS.due(29, "certificates that were revoked are among the 30", oneByOne + """
                revoked = 29
                issue 0 0 = 29
                mend 0 2 0
                mend 0 1 0
                revoked = 30
                issue 0 0 throws IllegalStateException
                """);
        SCRIPTS.due(36, "0 of 30 certificates stand, and 1", oneByOne + """
                standingShare = 0.0
                issue 0 0
                standingShare = 0.033333335
                """);
    }

    private static void doesStand() {
        SCRIPTS.due(30, "there is no such certificate", BENCH + """
                doesStand 0 throws IndexOutOfBoundsException
                addLesson 0 0
                addCourse 4 50
                2 x issue # 0
                doesStand -1 throws IndexOutOfBoundsException
                doesStand least throws IndexOutOfBoundsException
                doesStand 0 = true
                doesStand 1 = true
                doesStand 2 throws IndexOutOfBoundsException
                doesStand most throws IndexOutOfBoundsException
                """);
        SCRIPTS.due(30, "a certificate is revoked for good", BENCH + """
                addCourse 1 50
                answer 0 0 1 0
                issue 0 0
                mend 0 9 9
                doesStand 0 = false
                mend 0 1 0
                mastery 0 0 = 100
                doesStand 0 = false
                issue 0 0 = 1
                mend 1 9 9
                doesStand 0 = false
                doesStand 1 = true
                """);
    }

    private static void certificateOf() {
        SCRIPTS.due(31, "there is no such student", BENCH + """
                addLesson 0 0
                addCourse 4 50
                2 x issue # 0
                certificateOf -1 0 throws IndexOutOfBoundsException
                certificateOf least 0 throws IndexOutOfBoundsException
                certificateOf 0 0 = 0
                certificateOf 1 0 = 1
                certificateOf 2 0 throws IndexOutOfBoundsException
                certificateOf most 0 throws IndexOutOfBoundsException
                """);
        SCRIPTS.due(31, "there is no such course", BENCH + """
                certificateOf 0 0 throws IndexOutOfBoundsException
                addLesson 0 0
                2 x addCourse 4 50
                issue 0 1
                issue 0 0
                certificateOf 0 -1 throws IndexOutOfBoundsException
                certificateOf 0 least throws IndexOutOfBoundsException
                certificateOf 0 0 = 1
                certificateOf 0 1 = 0
                certificateOf 0 2 throws IndexOutOfBoundsException
                certificateOf 0 most throws IndexOutOfBoundsException
                """);
        SCRIPTS.due(31, "there is none of this student and this course", BENCH + """
                addLesson 0 0
                2 x addCourse 4 50
                certificateOf 0 0 throws NoSuchElementException
                issue 1 0
                issue 0 1
                certificateOf 0 0 throws NoSuchElementException
                certificateOf 1 1 throws NoSuchElementException
                """);
        SCRIPTS.due(31, "there is none that stands, and there is one again", BENCH + """
                addCourse 1 50
                answer 0 0 1 0
                issue 0 0
                mend 0 9 9
                certificateOf 0 0 throws NoSuchElementException
                mend 0 1 0
                certificateOf 0 0 throws NoSuchElementException
                issue 0 0
                certificateOf 0 0 = 1
                """);
        SCRIPTS.due(31, "no such student or course comes ahead of none", BENCH + """
                addCourse 1 50
                certificateOf 2 0 throws IndexOutOfBoundsException
                certificateOf 0 1 throws IndexOutOfBoundsException
                """);
    }

    private static void revokedByGrades() {
        SCRIPTS.due(25, "a mastery that is just enough revokes nothing", BENCH + """
                addCourse 1 50
                answer 0 0 1 0
                issue 0 0
                mend 0 0 0
                mastery 0 0 = 50
                doesStand 0 = true
                """);
        SCRIPTS.due(25, "a mastery that is one too small revokes", BENCH + """
                addCourse 1 51
                answer 0 0 0 0
                appeal 0
                decide 1
                issue 0 0
                mend 0 2 0
                mastery 0 0 = 50
                doesStand 0 = false
                """);
        SCRIPTS.due(25, "it is not enough in one of the lessons, be it the first or the last", BENCH + """
                addCourse 3 51
                answer 0 0 1 0
                answer 0 1 1 0
                answer 1 0 1 0
                answer 1 1 1 0
                issue 0 0
                mend 0 0 0
                doesStand 0 = false
                mend 0 1 0
                issue 1 0
                mend 1 0 0
                doesStand 1 = false
                revoked = 2
                """);
        SCRIPTS.due(25, "each certificate that stands is looked at, of each student and course", BENCH + """
                addCourse 1 100
                addCourse 3 50
                addCourse 2 100
                2 x answer # 0 1 0
                2 x answer # 1 1 0
                2 x issue # 0
                2 x issue # 1
                2 x issue # 2
                mend 0 0 0
                doesStand 0 = false
                doesStand 1 = false
                doesStand 2 = true
                doesStand 3 = true
                doesStand 4 = true
                doesStand 5 = true
                revoked = 2
                """);
        SCRIPTS.due(25, "points that were granted after the issue count", BENCH + """
                addCourse 3 50
                answer 0 0 0 0
                answer 0 1 1 0
                issue 0 0
                answer 0 0 9 9
                appeal 0
                decide 50
                pass 5
                mend 1 0 0
                doesStand 0 = true
                """);
        SCRIPTS.due(25, "no mend, no look: only a mend revokes", BENCH + """
                addCourse 1 50
                answer 0 0 0 0
                issue 0 0
                pass 99
                addExercise 0 1 0 0
                answer 1 0 9 9
                mend 0 1 0 throws IllegalStateException
                mend 0 1 -100 throws IllegalArgumentException
                doesStand 0 = true
                """);
    }

    private static void revokedByTheDayOfIssue() {
        SCRIPTS.due(25, "the mastery on the day of issue counts, not that of today", BENCH + """
                addCourse 1 50
                answer 0 0 1 0
                pass 10
                issue 0 0
                pass 99
                mastery 0 0 = 0
                mend 1 9 9
                doesStand 0 = true
                """);
        SCRIPTS.due(25, "the mastery on the day of issue counts, not that on the day of the answer", BENCH + """
                addCourse 1 46
                answer 0 0 1 0
                pass 1
                issue 0 0
                mend 0 0 0
                gradeOf 0 = 50
                doesStand 0 = false
                """);
        SCRIPTS.due(25, "the best answer on the day of issue is found anew", BENCH + """
                addCourse 1 50
                answer 0 0 1 0
                answer 0 0 2 0
                issue 0 0
                mend 0 2 1
                doesStand 0 = false
                issue 0 0 throws UnsupportedOperationException
                mend 0 2 0
                issue 0 0 = 1
                mend 0 1 0
                doesStand 1 = true
                """);
    }

    private static void revokedByWhatThereWas() {
        SCRIPTS.due(25, "an answer of the day of issue counts if it came before", BENCH + """
                addCourse 1 50
                answer 0 0 1 0
                answer 0 0 2 99
                issue 0 0
                mend 0 2 99
                doesStand 0 = true
                """);
        SCRIPTS.due(25, "an answer of the day of issue does not count if it came behind", BENCH + """
                addCourse 1 50
                answer 0 0 1 0
                issue 0 0
                answer 0 0 2 99
                mend 0 2 99
                mastery 0 0 = 100
                doesStand 0 = false
                issue 0 0 = 1
                """);
        SCRIPTS.due(25, "an answer of a later day does not count", BENCH + """
                addCourse 2 50
                answer 0 1 1 0
                issue 0 0
                pass 1
                answer 0 1 2 99
                mend 1 2 99
                mastery 0 1 = 100
                doesStand 0 = false
                """);
        SCRIPTS.due(25, "later exercises do not count", BENCH + """
                addCourse 2 50
                answer 0 1 1 0
                issue 0 0
                2 x addExercise 1 5 5 0
                mend 2 5 6
                mastery 0 1 = 33
                doesStand 0 = true
                mend 1 0 0
                doesStand 0 = true
                """);
        SCRIPTS.due(25, "answers to later exercises do not count", BENCH + """
                addCourse 2 50
                answer 0 1 1 0
                issue 0 0
                3 x addExercise 1 1 0 0
                addCase 2 1 1
                addCase 3 1 1
                answer 0 2 1 0
                answer 0 3 1 0
                mend 1 9 9
                mastery 0 1 = 50
                doesStand 0 = false
                """);
        SCRIPTS.due(25, "exercises that were there without an answer count", BENCH + """
                addExercise 1 5 5 0
                addCourse 2 50
                answer 0 1 1 0
                issue 0 0
                mend 2 5 6
                doesStand 0 = true
                mend 1 0 0
                doesStand 0 = false
                """);
        SCRIPTS.due(25, "a lesson without exercises on the day of issue is enough", BENCH + """
                addLesson 0 0
                addCourse 4 100
                issue 0 0
                addExercise 2 1 0 0
                mend 2 2 0
                mastery 0 2 = 0
                doesStand 0 = true
                """);
    }

    private static void revoked() {
        SCRIPTS.due(32, "0 without certificates, and while all stand", BENCH + """
                revoked = 0
                addCourse 1 50
                answer 0 0 1 0
                issue 0 0
                revoked = 0
                mend 0 0 0
                revoked = 0
                """);
        SCRIPTS.due(32, "each that was revoked counts once, for good", BENCH + """
                addCourse 1 100
                2 x answer # 0 1 0
                2 x issue # 0
                mend 0 0 0
                revoked = 2
                mend 0 9 9
                revoked = 2
                mend 0 1 0
                revoked = 2
                issue 1 0
                revoked = 2
                mend 0 0 0
                revoked = 3
                """);
    }
}
