import java.util.ArrayList;
import java.util.List;

/**
 * What the document says, as plainly as can be: rows of numbers, nothing kept that can be found,
 * and an answer or the name of an exception from each call. For RandomRunsTest alone.
 */
final class PlainBench {
    static final String INDEX = "IndexOutOfBoundsException";
    static final String ARGUMENT = "IllegalArgumentException";
    static final String STATE = "IllegalStateException";
    static final String UNSUPPORTED = "UnsupportedOperationException";
    static final String ELEMENT = "NoSuchElementException";
    static final String ARITHMETIC = "ArithmeticException";

    final List<int[]> cohorts = new ArrayList<>();      // first, last
    final List<Integer> students = new ArrayList<>();   // cohort
    final List<int[]> lessons = new ArrayList<>();      // needed, decay, mends
    final List<int[]> exercises = new ArrayList<>();    // lesson, factor, addend, grader
    final List<int[]> cases = new ArrayList<>();        // exercise, input, weight
    final List<int[]> answers = new ArrayList<>();      // student, exercise, factor, addend, day, points, decided
    final List<int[]> courses = new ArrayList<>();      // lessons, mastery
    final List<int[]> certificates = new ArrayList<>(); // student, course, day, exercises, answers, stands
    List<Integer> appeals = new ArrayList<>();
    List<Integer> harmed = new ArrayList<>();
    String line = "";
    int day;

    private static boolean in(int value, int least, int most) {
        return least <= value && value <= most;
    }

    private static boolean no(List<?> list, int index) {
        return !in(index, 0, list.size() - 1);
    }

    private static boolean noRule(int factor, int addend) {
        return !in(factor, -9, 9) || !in(addend, -99, 99);
    }

    private boolean noLessons(int sum) {
        for (int i = 0; i < 32; i++) {
            if ((sum & (1 << i)) != 0 && i >= lessons.size()) {
                return true;
            }
        }
        return false;
    }

    Object addCohort(int first, int last) {
        if (!in(first, 0, 999) || !in(last, first, 999)) {
            return ARGUMENT;
        }
        if (cohorts.size() == 4) {
            return STATE;
        }
        cohorts.add(new int[] {first, last});
        return cohorts.size() - 1;
    }

    Object addStudent(int cohort) {
        if (no(cohorts, cohort)) {
            return INDEX;
        }
        if (students.size() == 8) {
            return STATE;
        }
        students.add(cohort);
        return students.size() - 1;
    }

    Object addLesson(int needed, int decay) {
        if (noLessons(needed) || !in(decay, 0, 9)) {
            return ARGUMENT;
        }
        if (lessons.size() == 8) {
            return STATE;
        }
        lessons.add(new int[] {needed, decay, 0});
        return lessons.size() - 1;
    }

    Object addExercise(int lesson, int factor, int addend, int grader) {
        if (no(lessons, lesson)) {
            return INDEX;
        }
        if (noRule(factor, addend) || !in(grader, 0, 2)) {
            return ARGUMENT;
        }
        if (exercises.size() == 12) {
            return STATE;
        }
        exercises.add(new int[] {lesson, factor, addend, grader});
        return exercises.size() - 1;
    }

    List<int[]> casesOf(int exercise) {
        List<int[]> found = new ArrayList<>();
        for (int[] row : cases) {
            if (row[0] == exercise) {
                found.add(row);
            }
        }
        return found;
    }

    Object addCase(int exercise, int input, int weight) {
        if (no(exercises, exercise)) {
            return INDEX;
        }
        if (!in(input, 0, 99) || !in(weight, 1, 9)) {
            return ARGUMENT;
        }
        boolean answered = false;
        for (int[] row : answers) {
            answered |= row[1] == exercise;
        }
        if (answered || casesOf(exercise).size() == 6) {
            return STATE;
        }
        cases.add(new int[] {exercise, input, weight});
        return casesOf(exercise).size();
    }

    Object versionOf(int lesson) {
        return no(lessons, lesson) ? INDEX : (Object) lessons.get(lesson)[2];
    }

    private boolean open(int student, int lesson) {
        for (int i = 0; i < lessons.size(); i++) {
            if ((lessons.get(lesson)[0] & (1 << i)) != 0 && masteryNow(student, i) < 50) {
                return false;
            }
        }
        return true;
    }

    Object openLessons(int student) {
        if (no(students, student)) {
            return INDEX;
        }
        int count = 0;
        for (int i = 0; i < lessons.size(); i++) {
            count += open(student, i) ? 1 : 0;
        }
        return count;
    }

    Object reason(int student, int exercise) {
        if (no(students, student) || no(exercises, exercise)) {
            return INDEX;
        }
        int[] cohort = cohorts.get(students.get(student));
        if (!in(day, cohort[0], cohort[1])) {
            return 'd';
        }
        if (casesOf(exercise).isEmpty()) {
            return 'c';
        }
        return open(student, exercises.get(exercise)[0]) ? '-' : 'p';
    }

    Object answer(int student, int exercise, int factor, int addend) {
        if (no(students, student) || no(exercises, exercise)) {
            return INDEX;
        }
        if (noRule(factor, addend)) {
            return ARGUMENT;
        }
        if (!reason(student, exercise).equals('-')) {
            return UNSUPPORTED;
        }
        if (answers.size() == 100) {
            return STATE;
        }
        answers.add(new int[] {student, exercise, factor, addend, day, 0, 0});
        return answers.size() - 1;
    }

    private int credit(int answer, int index) {
        int[] given = answers.get(answer);
        int[] asked = exercises.get(given[1]);
        int[] row = casesOf(given[1]).get(index);
        int gap = Math.abs(asked[1] * row[1] + asked[2] - (given[2] * row[1] + given[3]));
        if (gap == 0) {
            return row[2];
        }
        switch (asked[3]) {
            case 1:
                return gap <= 2 ? row[2] / 2 : 0;
            case 2:
                return gap <= 9 ? row[2] * 2 / 3 : 0;
            default:
                return 0;
        }
    }

    int grade(int answer) {
        List<int[]> rows = casesOf(answers.get(answer)[1]);
        int credits = 0;
        int weights = 0;
        for (int i = 0; i < rows.size(); i++) {
            credits += credit(answer, i);
            weights += rows.get(i)[2];
        }
        return Math.min(100, credits * 100 / weights + answers.get(answer)[5]);
    }

    Object gradeOf(int answer) {
        return no(answers, answer) ? INDEX : (Object) grade(answer);
    }

    Object creditOf(int answer, int index) {
        if (no(answers, answer)) {
            return INDEX;
        }
        return no(casesOf(answers.get(answer)[1]), index) ? ELEMENT : (Object) credit(answer, index);
    }

    Object studentOf(int answer) {
        return no(answers, answer) ? INDEX : (Object) answers.get(answer)[0];
    }

    Object dayOf(int answer) {
        return no(answers, answer) ? INDEX : (Object) answers.get(answer)[4];
    }

    private int worth(int answer, int onDay) {
        int[] row = answers.get(answer);
        int decay = lessons.get(exercises.get(row[1])[0])[1];
        return Math.max(0, grade(answer) - decay * (onDay - row[4]));
    }

    private int best(int student, int exercise, int onDay, int answerLimit) {
        int best = -1;
        for (int i = answerLimit - 1; i >= 0; i--) {
            int[] row = answers.get(i);
            if (row[0] == student && row[1] == exercise && (best < 0 || worth(i, onDay) >= worth(best, onDay))) {
                best = i;
            }
        }
        return best;
    }

    Object bestAnswer(int student, int exercise) {
        if (no(students, student) || no(exercises, exercise)) {
            return INDEX;
        }
        int best = best(student, exercise, day, answers.size());
        return best < 0 ? ELEMENT : (Object) best;
    }

    private int masteryOn(int student, int lesson, int onDay, int exerciseLimit, int answerLimit) {
        int sum = 0;
        int count = 0;
        for (int i = 0; i < exerciseLimit; i++) {
            if (exercises.get(i)[0] == lesson) {
                int best = best(student, i, onDay, answerLimit);
                sum += best < 0 ? 0 : worth(best, onDay);
                count++;
            }
        }
        return count == 0 ? 100 : sum / count;
    }

    private int masteryNow(int student, int lesson) {
        return masteryOn(student, lesson, day, exercises.size(), answers.size());
    }

    Object mastery(int student, int lesson) {
        return no(students, student) || no(lessons, lesson) ? INDEX : (Object) masteryNow(student, lesson);
    }

    Object appeal(int answer) {
        if (no(answers, answer)) {
            return INDEX;
        }
        if (appeals.contains(answer) || answers.get(answer)[6] == 1) {
            return STATE;
        }
        appeals.add(answer);
        return appeals.size();
    }

    Object withdraw(int answer) {
        if (no(answers, answer)) {
            return INDEX;
        }
        return appeals.remove((Integer) answer) ? (Object) appeals.size() : ELEMENT;
    }

    Object decide(int points) {
        if (!in(points, 0, 100)) {
            return ARGUMENT;
        }
        if (appeals.isEmpty()) {
            return ELEMENT;
        }
        int answer = appeals.remove(0);
        answers.get(answer)[5] = points;
        answers.get(answer)[6] = 1;
        return answer;
    }

    Object appealAt(int position) {
        return no(appeals, position) ? INDEX : (Object) appeals.get(position);
    }

    Object mend(int exercise, int factor, int addend) {
        if (no(exercises, exercise)) {
            return INDEX;
        }
        if (noRule(factor, addend)) {
            return ARGUMENT;
        }
        int[] row = exercises.get(exercise);
        if (row[1] == factor && row[2] == addend) {
            return STATE;
        }
        int[] before = new int[answers.size()];
        for (int i = 0; i < before.length; i++) {
            before[i] = grade(i);
        }
        row[1] = factor;
        row[2] = addend;
        lessons.get(row[0])[2]++;
        harmed = new ArrayList<>();
        int changed = 0;
        for (int i = 0; i < before.length; i++) {
            if (answers.get(i)[1] == exercise) {
                answers.get(i)[5] = 0;
                answers.get(i)[6] = 0;
                appeals.remove((Integer) i);
                harmed.add(i);
                changed += before[i] != grade(i) ? 1 : 0;
            }
        }
        harmed.sort((one, two) -> {
            int falls = (before[two] - grade(two)) - (before[one] - grade(one));
            return falls != 0 ? falls : one - two;
        });
        for (int[] certificate : certificates) {
            if (!earned(certificate)) {
                certificate[5] = 0;
            }
        }
        return changed;
    }

    private boolean earned(int[] certificate) {
        int[] course = courses.get(certificate[1]);
        for (int i = 0; i < lessons.size(); i++) {
            if ((course[0] & (1 << i)) != 0 && course[1]
                    > masteryOn(certificate[0], i, certificate[2], certificate[3], certificate[4])) {
                return false;
            }
        }
        return true;
    }

    Object harmedAt(int position) {
        return no(harmed, position) ? INDEX : (Object) harmed.get(position);
    }

    Object addCourse(int sum, int mastery) {
        if (sum == 0 || noLessons(sum) || !in(mastery, 1, 100)) {
            return ARGUMENT;
        }
        if (courses.size() == 4) {
            return STATE;
        }
        courses.add(new int[] {sum, mastery});
        return courses.size() - 1;
    }

    private int standing(int student, int course) {
        for (int i = 0; i < certificates.size(); i++) {
            int[] row = certificates.get(i);
            if (row[0] == student && row[1] == course && row[5] == 1) {
                return i;
            }
        }
        return -1;
    }

    Object issue(int student, int course) {
        if (no(students, student) || no(courses, course)) {
            return INDEX;
        }
        if (standing(student, course) >= 0 || certificates.size() == 30) {
            return STATE;
        }
        int[] row = {student, course, day, exercises.size(), answers.size(), 1};
        if (!earned(row)) {
            return UNSUPPORTED;
        }
        certificates.add(row);
        return certificates.size() - 1;
    }

    Object doesStand(int certificate) {
        return no(certificates, certificate) ? INDEX : (Object) (certificates.get(certificate)[5] == 1);
    }

    Object certificateOf(int student, int course) {
        if (no(students, student) || no(courses, course)) {
            return INDEX;
        }
        int found = standing(student, course);
        return found < 0 ? ELEMENT : (Object) found;
    }

    Object revoked() {
        int count = 0;
        for (int[] row : certificates) {
            count += 1 - row[5];
        }
        return count;
    }

    Object pass(int days) {
        if (!in(days, 1, 99)) {
            return ARGUMENT;
        }
        if (day + days > 999) {
            return STATE;
        }
        day += days;
        return day;
    }

    Object meanGrade() {
        double sum = 0;
        for (int i = 0; i < answers.size(); i++) {
            sum += grade(i);
        }
        return answers.isEmpty() ? ARITHMETIC : (Object) (sum / answers.size());
    }

    Object standingShare() {
        float standing = certificates.size() - (Integer) revoked();
        return certificates.isEmpty() ? ARITHMETIC : (Object) (standing / certificates.size());
    }

    Object writeAnswer(int answer) {
        if (no(answers, answer)) {
            return INDEX;
        }
        int points = answers.get(answer)[5];
        line = "answer " + answer + ": " + grade(answer) + (grade(answer) < 50 ? " failed" : " passed")
                + (points == 0 ? "" : " by " + points);
        return line.length();
    }

    Object lineAt(int index) {
        return in(index, 0, line.length() - 1) ? (Object) line.charAt(index) : INDEX;
    }
}
