import java.util.ArrayList;
import java.util.NoSuchElementException;

/**
 * A bench for authors of courses: cohorts of students answer exercises of lessons, graders give
 * credit, appeals are decided in turn, and a mended exercise grades its answers anew.
 */
public final class CourseForge {
    private static final int MOST_COHORTS = 4;
    private static final int MOST_STUDENTS = 8;
    private static final int MOST_LESSONS = 8;
    private static final int MOST_EXERCISES = 12;
    private static final int MOST_CASES = 6;
    private static final int MOST_ANSWERS = 100;
    private static final int MOST_COURSES = 4;
    private static final int MOST_CERTIFICATES = 30;

    private static final int LAST_DAY = 999;
    private static final int MOST_DAYS_AT_ONCE = 99;
    private static final int MOST_DECAY = 9;
    private static final int MOST_FACTOR = 9;
    private static final int MOST_ADDEND = 99;
    private static final int LAST_GRADER = 2;
    private static final int MOST_INPUT = 99;
    private static final int MOST_WEIGHT = 9;
    private static final int FULL = 100;
    private static final int OPENING_MASTERY = 50;
    private static final int PASSING_GRADE = 50;

    private final ArrayList<Cohort> cohorts = new ArrayList<>();
    private final ArrayList<Student> students = new ArrayList<>();
    private final ArrayList<Lesson> lessons = new ArrayList<>();
    private final ArrayList<Exercise> exercises = new ArrayList<>();
    private final ArrayList<Answer> answers = new ArrayList<>();
    private final ArrayList<Course> courses = new ArrayList<>();
    private final ArrayList<Certificate> certificates = new ArrayList<>();
    /** The answers with a waiting appeal, the one that has been waiting longest first. */
    private final ArrayList<Answer> appeals = new ArrayList<>();
    /** The answers that the latest mend graded anew, in the order of harm. */
    private final ArrayList<Answer> harmed = new ArrayList<>();
    private final StringBuilder line = new StringBuilder();
    private int day;

    /** Creates a bench without cohorts, students, lessons and exercises, on the day 0. */
    public CourseForge() {
        day = 0;
    }

    // ---- cohorts, lessons and exercises

    public int addCohort(int first, int last) throws IllegalArgumentException, IllegalStateException {
        if (first < 0 || last < first || last > LAST_DAY) {
            throw new IllegalArgumentException("a day is out of range");
        }
        if (cohorts.size() >= MOST_COHORTS) {
            throw new IllegalStateException("there are 4 cohorts");
        }
        cohorts.add(new Cohort(first, last));
        return cohorts.size() - 1;
    }

    public int addStudent(int cohort) throws IndexOutOfBoundsException, IllegalStateException {
        if (cohort < 0 || cohort >= cohorts.size()) {
            throw new IndexOutOfBoundsException("no such cohort");
        }
        if (students.size() >= MOST_STUDENTS) {
            throw new IllegalStateException("there are 8 students");
        }
        students.add(new Student(students.size(), cohorts.get(cohort)));
        return students.size() - 1;
    }

    public int addLesson(int needed, int decay) throws IllegalArgumentException, IllegalStateException {
        if (!areLessons(needed)) {
            throw new IllegalArgumentException("a lesson that is needed does not exist");
        }
        if (!isWithin(decay, 0, MOST_DECAY)) {
            throw new IllegalArgumentException("the decay is out of range");
        }
        if (lessons.size() >= MOST_LESSONS) {
            throw new IllegalStateException("there are 8 lessons");
        }
        lessons.add(new Lesson(needed, decay));
        return lessons.size() - 1;
    }

    public int addExercise(int lesson, int factor, int addend, int grader)
            throws IndexOutOfBoundsException, IllegalArgumentException, IllegalStateException {
        Lesson home = findLesson(lesson);
        requireRule(factor, addend);
        if (!isWithin(grader, 0, LAST_GRADER)) {
            throw new IllegalArgumentException("the grader is out of range");
        }
        if (exercises.size() >= MOST_EXERCISES) {
            throw new IllegalStateException("there are 12 exercises");
        }
        Exercise added = new Exercise(exercises.size(), home, new Rule(factor, addend), grader);
        exercises.add(added);
        home.exercises.add(added);
        return added.number;
    }

    public int addCase(int exercise, int input, int weight)
            throws IndexOutOfBoundsException, IllegalArgumentException, IllegalStateException {
        Exercise target = findExercise(exercise);
        if (!isWithin(input, 0, MOST_INPUT) || !isWithin(weight, 1, MOST_WEIGHT)) {
            throw new IllegalArgumentException("the input or the weight is out of range");
        }
        if (target.caseCount >= MOST_CASES || !target.answers.isEmpty()) {
            throw new IllegalStateException("there are 6 cases, or an answer");
        }
        target.putCase(input, weight);
        return target.caseCount;
    }

    public int versionOf(int lesson) throws IndexOutOfBoundsException {
        return findLesson(lesson).mends;
    }

    public int openLessons(int student) throws IndexOutOfBoundsException {
        Student asked = findStudent(student);
        Moment moment = now();
        int open = 0;
        for (int i = 0; i < lessons.size(); i++) {
            if (isOpen(lessons.get(i), asked, moment)) {
                open++;
            }
        }
        return open;
    }

    // ---- answers and grades

    public char reason(int student, int exercise) throws IndexOutOfBoundsException {
        return reasonAgainst(findStudent(student), findExercise(exercise));
    }

    public int answer(int student, int exercise, int factor, int addend)
            throws IndexOutOfBoundsException, IllegalArgumentException, UnsupportedOperationException,
                    IllegalStateException {
        Student author = findStudent(student);
        Exercise target = findExercise(exercise);
        requireRule(factor, addend);
        if (reasonAgainst(author, target) != '-') {
            throw new UnsupportedOperationException("there is a reason why not");
        }
        if (answers.size() >= MOST_ANSWERS) {
            throw new IllegalStateException("there have been 100 answers");
        }
        Answer given = new Answer(answers.size(), author, target, new Rule(factor, addend), day);
        given.grade = given.gradeByRule();
        answers.add(given);
        target.answers.add(given);
        return given.number;
    }

    public int answerCount() {
        return answers.size();
    }

    public int gradeOf(int answer) throws IndexOutOfBoundsException {
        return findAnswer(answer).grade;
    }

    public int gradeAnew(int answer) throws IndexOutOfBoundsException {
        return findAnswer(answer).gradeByRule();
    }

    public int creditOf(int answer, int index) throws IndexOutOfBoundsException, NoSuchElementException {
        Answer asked = findAnswer(answer);
        if (index < 0 || index >= asked.exercise.caseCount) {
            throw new NoSuchElementException("no such case");
        }
        return asked.exercise.creditFor(asked.rule, index);
    }

    public int studentOf(int answer) throws IndexOutOfBoundsException {
        return findAnswer(answer).student.number;
    }

    public int dayOf(int answer) throws IndexOutOfBoundsException {
        return findAnswer(answer).day;
    }

    public int bestAnswer(int student, int exercise)
            throws IndexOutOfBoundsException, NoSuchElementException {
        Answer best = findExercise(exercise).bestOf(findStudent(student), now());
        if (best == null) {
            throw new NoSuchElementException("there is no answer");
        }
        return best.number;
    }

    // ---- mastery and appeals

    public int mastery(int student, int lesson) throws IndexOutOfBoundsException {
        return findLesson(lesson).masteryAt(findStudent(student), now());
    }

    public int masteryAnew(int student, int lesson) throws IndexOutOfBoundsException {
        return masteryByRules(findStudent(student), findLesson(lesson));
    }

    public int appeal(int answer) throws IndexOutOfBoundsException, IllegalStateException {
        Answer disputed = findAnswer(answer);
        if (disputed.isWaiting || disputed.isDecided) {
            throw new IllegalStateException("an appeal is waiting, or was decided");
        }
        disputed.isWaiting = true;
        appeals.add(disputed);
        return appeals.size();
    }

    public int withdraw(int answer) throws IndexOutOfBoundsException, NoSuchElementException {
        Answer disputed = findAnswer(answer);
        if (!disputed.isWaiting) {
            throw new NoSuchElementException("no appeal against it is waiting");
        }
        disputed.isWaiting = false;
        dropSettledAppeals();
        return appeals.size();
    }

    public int decide(int points) throws IllegalArgumentException, NoSuchElementException {
        if (!isWithin(points, 0, FULL)) {
            throw new IllegalArgumentException("the number of points is out of range");
        }
        if (appeals.isEmpty()) {
            throw new NoSuchElementException("no appeal is waiting");
        }
        Answer decided = appeals.remove(0);
        decided.isWaiting = false;
        decided.isDecided = true;
        decided.points = points;
        decided.grade = decided.gradeByRule();
        return decided.number;
    }

    public int appealCount() {
        return appeals.size();
    }

    public int appealAt(int position) throws IndexOutOfBoundsException {
        if (position < 0 || position >= appeals.size()) {
            throw new IndexOutOfBoundsException("no such position");
        }
        return appeals.get(position).number;
    }

    // ---- mends and certificates

    public int mend(int exercise, int factor, int addend)
            throws IndexOutOfBoundsException, IllegalArgumentException, IllegalStateException {
        Exercise target = findExercise(exercise);
        requireRule(factor, addend);
        if (target.rule.factor == factor && target.rule.addend == addend) {
            throw new IllegalStateException("this is its rule already");
        }
        target.rule = new Rule(factor, addend);
        target.lesson.mends++;
        int changed = gradeAllAnew(target);
        dropSettledAppeals();
        revokeUnearned();
        return changed;
    }

    public int harmedCount() {
        return harmed.size();
    }

    public int harmedAt(int position) throws IndexOutOfBoundsException {
        if (position < 0 || position >= harmed.size()) {
            throw new IndexOutOfBoundsException("no such position");
        }
        return harmed.get(position).number;
    }

    public int addCourse(int lessons, int mastery) throws IllegalArgumentException, IllegalStateException {
        if (lessons == 0 || !areLessons(lessons)) {
            throw new IllegalArgumentException("it has no lessons, or a lesson does not exist");
        }
        if (!isWithin(mastery, 1, FULL)) {
            throw new IllegalArgumentException("the mastery is out of range");
        }
        if (courses.size() >= MOST_COURSES) {
            throw new IllegalStateException("there are 4 courses");
        }
        courses.add(new Course(lessons, mastery));
        return courses.size() - 1;
    }

    public int issue(int student, int course)
            throws IndexOutOfBoundsException, IllegalStateException, UnsupportedOperationException {
        Student holder = findStudent(student);
        Course passed = findCourse(course);
        if (standingCertificate(holder, passed) != null || certificates.size() >= MOST_CERTIFICATES) {
            throw new IllegalStateException("one of this course stands, or there have been 30");
        }
        Moment moment = now();
        if (!hasMastery(holder, passed.lessons, passed.mastery, moment)) {
            throw new UnsupportedOperationException("the mastery in a lesson is not enough");
        }
        certificates.add(new Certificate(certificates.size(), holder, passed, moment));
        return certificates.size() - 1;
    }

    public boolean doesStand(int certificate) throws IndexOutOfBoundsException {
        if (certificate < 0 || certificate >= certificates.size()) {
            throw new IndexOutOfBoundsException("no such certificate");
        }
        return certificates.get(certificate).stands;
    }

    public int certificateOf(int student, int course)
            throws IndexOutOfBoundsException, NoSuchElementException {
        Certificate held = standingCertificate(findStudent(student), findCourse(course));
        if (held == null) {
            throw new NoSuchElementException("there is none");
        }
        return held.number;
    }

    public int revoked() {
        return certificates.size() - countStanding();
    }

    // ---- days, figures and line

    public int pass(int days) throws IllegalArgumentException, IllegalStateException {
        if (!isWithin(days, 1, MOST_DAYS_AT_ONCE)) {
            throw new IllegalArgumentException("the number of days is out of range");
        }
        if (day + days > LAST_DAY) {
            throw new IllegalStateException("the day would be greater than 999");
        }
        day += days;
        return day;
    }

    public int today() {
        return day;
    }

    public double meanGrade() throws ArithmeticException {
        int number = answers.size();
        if (number == 0) {
            throw new ArithmeticException("there are no answers");
        }
        int sum = 0;
        for (int i = 0; i < number; i++) {
            sum += answers.get(i).grade;
        }
        return (double) sum / (double) number;
    }

    public float standingShare() throws ArithmeticException {
        int number = certificates.size();
        if (number == 0) {
            throw new ArithmeticException("there are no certificates");
        }
        return (float) countStanding() / (float) number;
    }

    public boolean isConsistent() {
        for (int i = 0; i < answers.size(); i++) {
            if (answers.get(i).grade != answers.get(i).gradeByRule()) {
                return false;
            }
        }
        Moment moment = now();
        for (int i = 0; i < students.size(); i++) {
            for (int j = 0; j < lessons.size(); j++) {
                Student student = students.get(i);
                Lesson lesson = lessons.get(j);
                if (lesson.masteryAt(student, moment) != masteryByRules(student, lesson)) {
                    return false;
                }
            }
        }
        return true;
    }

    public int writeAnswer(int answer) throws IndexOutOfBoundsException {
        Answer written = findAnswer(answer);
        line.setLength(0);
        line.append("answer ").append(written.number).append(": ").append(written.grade);
        line.append(written.grade >= PASSING_GRADE ? " passed" : " failed");
        if (written.points > 0) {
            line.append(" by ").append(written.points);
        }
        return line.length();
    }

    public char lineAt(int index) throws IndexOutOfBoundsException {
        if (index < 0 || index >= line.length()) {
            throw new IndexOutOfBoundsException("no such character");
        }
        return line.charAt(index);
    }

    // ---- what the calls above share

    private static boolean isWithin(int value, int least, int most) {
        return value >= least && value <= most;
    }

    private static void requireRule(int factor, int addend) {
        if (!isWithin(factor, -MOST_FACTOR, MOST_FACTOR) || !isWithin(addend, -MOST_ADDEND, MOST_ADDEND)) {
            throw new IllegalArgumentException("the factor or the addend is out of range");
        }
    }

    /** Whether each bit of a sum of powers of 2 names a lesson; a sign bit would name lesson 31. */
    private boolean areLessons(int sum) {
        return sum >>> lessons.size() == 0;
    }

    private static boolean hasLesson(int sum, int lesson) {
        return (sum >>> lesson & 1) == 1;
    }

    private Student findStudent(int student) {
        if (student < 0 || student >= students.size()) {
            throw new IndexOutOfBoundsException("no such student");
        }
        return students.get(student);
    }

    private Lesson findLesson(int lesson) {
        if (lesson < 0 || lesson >= lessons.size()) {
            throw new IndexOutOfBoundsException("no such lesson");
        }
        return lessons.get(lesson);
    }

    private Exercise findExercise(int exercise) {
        if (exercise < 0 || exercise >= exercises.size()) {
            throw new IndexOutOfBoundsException("no such exercise");
        }
        return exercises.get(exercise);
    }

    private Answer findAnswer(int answer) {
        if (answer < 0 || answer >= answers.size()) {
            throw new IndexOutOfBoundsException("no such answer");
        }
        return answers.get(answer);
    }

    private Course findCourse(int course) {
        if (course < 0 || course >= courses.size()) {
            throw new IndexOutOfBoundsException("no such course");
        }
        return courses.get(course);
    }

    private Moment now() {
        return new Moment(day, exercises.size(), answers.size());
    }

    private boolean isOpen(Lesson lesson, Student student, Moment moment) {
        return hasMastery(student, lesson.needed, OPENING_MASTERY, moment);
    }

    private boolean hasMastery(Student student, int lessonSum, int least, Moment moment) {
        for (int i = 0; i < lessons.size(); i++) {
            if (hasLesson(lessonSum, i) && lessons.get(i).masteryAt(student, moment) < least) {
                return false;
            }
        }
        return true;
    }

    private char reasonAgainst(Student student, Exercise exercise) {
        if (!isWithin(day, student.cohort.first, student.cohort.last)) {
            return 'd';
        }
        if (exercise.caseCount == 0) {
            return 'c';
        }
        return isOpen(exercise.lesson, student, now()) ? '-' : 'p';
    }

    /** Takes no grade that is kept and no list by lesson, so that isConsistent has two ways to compare. */
    private int masteryByRules(Student student, Lesson lesson) {
        int sum = 0;
        int number = 0;
        for (int i = 0; i < exercises.size(); i++) {
            if (exercises.get(i).lesson == lesson) {
                sum += bestWorthByRules(student, exercises.get(i));
                number++;
            }
        }
        return number == 0 ? FULL : sum / number;
    }

    private int bestWorthByRules(Student student, Exercise exercise) {
        int best = 0;
        for (int i = 0; i < answers.size(); i++) {
            Answer answer = answers.get(i);
            if (answer.student == student && answer.exercise == exercise) {
                best = Math.max(best, answer.worth(answer.gradeByRule(), day));
            }
        }
        return best;
    }

    private void dropSettledAppeals() {
        for (int i = appeals.size() - 1; i >= 0; i--) {
            if (!appeals.get(i).isWaiting) {
                appeals.remove(i);
            }
        }
    }

    /** Fills the list of the harmed, and returns how many grades became another one. */
    private int gradeAllAnew(Exercise exercise) {
        harmed.clear();
        int changed = 0;
        for (int i = 0; i < exercise.answers.size(); i++) {
            Answer answer = exercise.answers.get(i);
            answer.meetMend();
            if (answer.fall != 0) {
                changed++;
            }
            harmed.add(placeAmongHarmed(answer.fall), answer);
        }
        return changed;
    }

    /** Behind all that fall as much, because answers come here in the order of their numbers. */
    private int placeAmongHarmed(int fall) {
        int place = harmed.size();
        while (place > 0 && harmed.get(place - 1).fall < fall) {
            place--;
        }
        return place;
    }

    private void revokeUnearned() {
        for (int i = 0; i < certificates.size(); i++) {
            Certificate certificate = certificates.get(i);
            Course course = certificate.course;
            if (!hasMastery(certificate.student, course.lessons, course.mastery, certificate.issued)) {
                certificate.stands = false;
            }
        }
    }

    /** The certificate of a course that a student has and that stands, or null. */
    private Certificate standingCertificate(Student student, Course course) {
        for (int i = 0; i < certificates.size(); i++) {
            Certificate certificate = certificates.get(i);
            if (certificate.stands && certificate.student == student && certificate.course == course) {
                return certificate;
            }
        }
        return null;
    }

    private int countStanding() {
        int standing = 0;
        for (int i = 0; i < certificates.size(); i++) {
            if (certificates.get(i).stands) {
                standing++;
            }
        }
        return standing;
    }

    private static final class Cohort {
        final int first;
        final int last;

        Cohort(int first, int last) {
            this.first = first;
            this.last = last;
        }
    }

    private static final class Student {
        final int number;
        final Cohort cohort;

        Student(int number, Cohort cohort) {
            this.number = number;
            this.cohort = cohort;
        }
    }

    /** A day, with the numbers of exercises and answers that there were then. */
    private static final class Moment {
        final int day;
        final int exercises;
        final int answers;

        Moment(int day, int exercises, int answers) {
            this.day = day;
            this.exercises = exercises;
            this.answers = answers;
        }
    }

    private static final class Lesson {
        final int needed;
        final int decay;
        final ArrayList<Exercise> exercises = new ArrayList<>();
        int mends;

        Lesson(int needed, int decay) {
            this.needed = needed;
            this.decay = decay;
        }

        int masteryAt(Student student, Moment moment) {
            int sum = 0;
            int number = 0;
            for (int i = 0; i < exercises.size(); i++) {
                Exercise exercise = exercises.get(i);
                if (exercise.number < moment.exercises) {
                    Answer best = exercise.bestOf(student, moment);
                    sum += best == null ? 0 : best.worth(best.grade, moment.day);
                    number++;
                }
            }
            return number == 0 ? FULL : sum / number;
        }
    }

    private static final class Rule {
        final int factor;
        final int addend;

        Rule(int factor, int addend) {
            this.factor = factor;
            this.addend = addend;
        }

        int valueFor(int input) {
            return factor * input + addend;
        }
    }

    private static final class Exercise {
        final int number;
        final Lesson lesson;
        final int grader;
        final int[] inputs = new int[MOST_CASES];
        final int[] weights = new int[MOST_CASES];
        final ArrayList<Answer> answers = new ArrayList<>();
        Rule rule;
        int caseCount;
        int weightSum;

        Exercise(int number, Lesson lesson, Rule rule, int grader) {
            this.number = number;
            this.lesson = lesson;
            this.rule = rule;
            this.grader = grader;
        }

        void putCase(int input, int weight) {
            if (caseCount < MOST_CASES) {
                inputs[caseCount] = input;
                weights[caseCount] = weight;
                weightSum += weight;
                caseCount++;
            }
        }

        int creditFor(Rule given, int index) {
            if (index < 0 || index >= caseCount) {
                return 0;
            }
            int gap = Math.abs(rule.valueFor(inputs[index]) - given.valueFor(inputs[index]));
            int weight = weights[index];
            if (gap == 0) {
                return weight;
            }
            if (grader == 1 && gap <= 2) {
                return weight / 2;
            }
            if (grader == 2 && gap <= 9) {
                return weight * 2 / 3;
            }
            return 0;
        }

        /** The answer of a student that is worth the most at a moment, or null without one. */
        Answer bestOf(Student student, Moment moment) {
            Answer best = null;
            int most = -1;
            for (int i = 0; i < answers.size(); i++) {
                Answer answer = answers.get(i);
                int worth = answer.worth(answer.grade, moment.day);
                if (answer.student == student && answer.number < moment.answers && worth > most) {
                    best = answer;
                    most = worth;
                }
            }
            return best;
        }
    }

    private static final class Answer {
        final int number;
        final Student student;
        final Exercise exercise;
        final Rule rule;
        final int day;
        int grade;
        int points;
        boolean isWaiting;
        /** Whether an appeal was decided since the exercise was last mended. */
        boolean isDecided;
        /** By how much the latest mend of the exercise made the grade fall. */
        int fall;

        Answer(int number, Student student, Exercise exercise, Rule rule, int day) {
            this.number = number;
            this.student = student;
            this.exercise = exercise;
            this.rule = rule;
            this.day = day;
        }

        int gradeByRule() {
            int credits = 0;
            for (int i = 0; i < exercise.caseCount; i++) {
                credits += exercise.creditFor(rule, i);
            }
            int share = exercise.weightSum == 0 ? 0 : FULL * credits / exercise.weightSum;
            return Math.min(FULL, share + points);
        }

        /** What this answer is worth on a day, for a grade that is kept or found anew. */
        int worth(int someGrade, int someDay) {
            return Math.max(0, someGrade - exercise.lesson.decay * (someDay - day));
        }

        void meetMend() {
            isWaiting = false;
            isDecided = false;
            points = 0;
            int before = grade;
            grade = gradeByRule();
            fall = before - grade;
        }
    }

    private static final class Course {
        final int lessons;
        final int mastery;

        Course(int lessons, int mastery) {
            this.lessons = lessons;
            this.mastery = mastery;
        }
    }

    private static final class Certificate {
        final int number;
        final Student student;
        final Course course;
        final Moment issued;
        boolean stands = true;

        Certificate(int number, Student student, Course course, Moment issued) {
            this.number = number;
            this.student = student;
            this.course = course;
            this.issued = issued;
        }
    }
}
