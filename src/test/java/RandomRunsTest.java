import java.util.Map;
import java.util.TreeMap;

/**
 * Runs of at most 512 calls, made by counting alone and so the same each time, in which each call is
 * asked of CourseForge and of PlainBench. A call that throws leaves PlainBench as it is, so that a
 * change it made in CourseForge is seen by later calls. Each outcome of each call must come up.
 */
public final class RandomRunsTest {
    private static final int RUNS = 4000;
    private static final int CALLS = 512;
    private static final int MOST_AT_ONCE = 3;
    private static final int FEWEST = 20;

    private static final String[] OUTCOMES = {
        "addCohort value ARGUMENT STATE", "addStudent value INDEX STATE", "addLesson value ARGUMENT STATE",
        "addExercise value INDEX ARGUMENT STATE", "addCase value INDEX ARGUMENT STATE", "versionOf value INDEX",
        "openLessons value INDEX", "reason - d c p INDEX", "answer value INDEX ARGUMENT UNSUPPORTED STATE",
        "answerCount value", "gradeOf value INDEX", "gradeAnew value INDEX", "creditOf value INDEX ELEMENT",
        "studentOf value INDEX", "dayOf value INDEX", "bestAnswer value INDEX ELEMENT", "mastery value INDEX",
        "masteryAnew value INDEX", "appeal value INDEX STATE", "withdraw value INDEX ELEMENT",
        "decide value ARGUMENT ELEMENT", "appealCount value", "appealAt value INDEX",
        "mend value INDEX ARGUMENT STATE", "harmedCount value", "harmedAt value INDEX",
        "addCourse value ARGUMENT STATE", "issue value INDEX STATE UNSUPPORTED", "doesStand true false INDEX",
        "certificateOf value INDEX ELEMENT", "revoked value", "pass value ARGUMENT STATE", "today value",
        "meanGrade value ARITHMETIC", "standingShare value ARITHMETIC", "isConsistent true",
        "writeAnswer value INDEX", "lineAt value INDEX",
    };

    private final Map<String, Integer> seen = new TreeMap<>();
    private final StringBuilder told = new StringBuilder();
    private CourseForge bench;
    private PlainBench plain;
    private long state;
    private int calls;
    private int wrong;
    /** Days that pass in long steps reach the last day, in short steps leave grades to compare. */
    private boolean longDays;

    public static void main(String[] args) {
        RandomRunsTest test = new RandomRunsTest();
        for (int run = 0; run < RUNS && test.wrong == 0; run++) {
            test.run(run);
        }
        test.dueOutcomes();
        System.out.println("RandomRunsTest: " + RUNS + " runs, " + test.wrong + " wrong");
        if (test.wrong != 0) {
            System.exit(1);
        }
    }

    private void run(int number) {
        bench = new CourseForge();
        plain = new PlainBench();
        state = number * 7919L + 13;
        told.setLength(0);
        calls = 0;
        longDays = number % 5 == 0;
        int builds = 20 + upTo(60);
        int answering = number % 3 == 0 ? 30 : upTo(4);
        while (calls <= CALLS - MOST_AT_ONCE && wrong == 0) {
            if (calls < builds || upTo(40) == 0) {
                build(upTo(6));
            } else if (upTo(3) == 0) {
                ask(upTo(21));
            } else {
                act(upTo(9 + answering));
            }
        }
        if (wrong != 0) {
            System.out.println("run " + number + ":" + told);
        }
    }

    /** A number from 0 to one less than the bound, by xorshift. */
    private int upTo(int bound) {
        state ^= state << 13;
        state ^= state >>> 7;
        state ^= state << 17;
        return (int) Long.remainderUnsigned(state, bound);
    }

    /** Mostly a number that is in the range, at times one beside it, seldom one far away. */
    private int from(int least, int most) {
        int kind = upTo(200);
        if (kind < 6) {
            return kind % 2 == 0 ? least - 1 : most + 1;
        }
        if (kind == 6) {
            return upTo(2) == 0 ? Integer.MIN_VALUE : Integer.MAX_VALUE;
        }
        return most < least ? least : least + upTo(most - least + 1);
    }

    private int student() {
        return from(0, plain.students.size() - 1);
    }

    private int lesson() {
        return from(0, plain.lessons.size() - 1);
    }

    private int exercise() {
        return from(0, plain.exercises.size() - 1);
    }

    private int course() {
        return from(0, plain.courses.size() - 1);
    }

    private int someAnswer() {
        return from(0, plain.answers.size() - 1);
    }

    private int lessonSum() {
        return from(0, (1 << plain.lessons.size()) - 1);
    }

    /** The factor or the addend (column 1 or 2) of an exercise, or a number near it, or any. */
    private int nearRule(int exercise, int column, int most) {
        int kind = upTo(10);
        if (kind < 2 || exercise < 0 || exercise >= plain.exercises.size()) {
            return from(-most, most);
        }
        int own = plain.exercises.get(exercise)[column];
        int off = column == 1 ? upTo(2) - upTo(2) : upTo(12) - upTo(12);
        return kind < 7 ? own : own + off;
    }

    private void build(int kind) {
        switch (kind) {
            case 0: {
                int first = upTo(3) == 0 ? from(0, 999) : from(0, 5);
                int last = upTo(3) == 0 ? from(first, 999) : from(50, 999);
                due("addCohort " + first + " " + last, () -> bench.addCohort(first, last), plain.addCohort(first, last));
                break;
            }
            case 1: {
                int cohort = from(0, plain.cohorts.size() - 1);
                due("addStudent " + cohort, () -> bench.addStudent(cohort), plain.addStudent(cohort));
                break;
            }
            case 2: {
                int needed = upTo(2) == 0 ? 0 : lessonSum() & lessonSum();
                int decay = upTo(2) == 0 ? from(0, 9) : upTo(2);
                due("addLesson " + needed + " " + decay, () -> bench.addLesson(needed, decay), plain.addLesson(needed, decay));
                break;
            }
            case 3: {
                int lesson = lesson();
                int factor = from(-9, 9);
                int addend = from(-99, 99);
                int grader = from(0, 2);
                due("addExercise " + lesson + " " + factor + " " + addend + " " + grader,
                        () -> bench.addExercise(lesson, factor, addend, grader),
                        plain.addExercise(lesson, factor, addend, grader));
                break;
            }
            case 4: {
                int exercise = exercise();
                int input = upTo(2) == 0 ? from(0, 99) : upTo(5);
                int weight = from(1, 9);
                due("addCase " + exercise + " " + input + " " + weight,
                        () -> bench.addCase(exercise, input, weight), plain.addCase(exercise, input, weight));
                break;
            }
            default: {
                int lessons = lessonSum();
                int mastery = upTo(2) == 0 ? from(1, 100) : 1 + upTo(30);
                due("addCourse " + lessons + " " + mastery,
                        () -> bench.addCourse(lessons, mastery), plain.addCourse(lessons, mastery));
                break;
            }
        }
    }

    private void act(int kind) {
        switch (kind) {
            case 0: {
                int answer = someAnswer();
                due("appeal " + answer, () -> bench.appeal(answer), plain.appeal(answer));
                break;
            }
            case 1: {
                int answer = upTo(2) == 0 || plain.appeals.isEmpty()
                        ? someAnswer() : plain.appeals.get(upTo(plain.appeals.size()));
                due("withdraw " + answer, () -> bench.withdraw(answer), plain.withdraw(answer));
                break;
            }
            case 2: {
                int points = upTo(3) == 0 ? from(0, 100) : upTo(20);
                due("decide " + points, () -> bench.decide(points), plain.decide(points));
                break;
            }
            case 3: {
                int exercise = exercise();
                int factor = nearRule(exercise, 1, 9);
                int addend = nearRule(exercise, 2, 99);
                due("mend " + exercise + " " + factor + " " + addend,
                        () -> bench.mend(exercise, factor, addend), plain.mend(exercise, factor, addend));
                break;
            }
            case 4:
            case 5: {
                int student = student();
                int course = course();
                due("issue " + student + " " + course, () -> bench.issue(student, course), plain.issue(student, course));
                break;
            }
            case 6: {
                int days = longDays || upTo(8) == 0 ? from(1, 99) : 1 + upTo(3);
                due("pass " + days, () -> bench.pass(days), plain.pass(days));
                break;
            }
            case 7: {
                int answer = someAnswer();
                due("writeAnswer " + answer, () -> bench.writeAnswer(answer), plain.writeAnswer(answer));
                break;
            }
            default: {
                int student = student();
                int exercise = exercise();
                int factor = nearRule(exercise, 1, 9);
                int addend = nearRule(exercise, 2, 99);
                due("answer " + student + " " + exercise + " " + factor + " " + addend,
                        () -> bench.answer(student, exercise, factor, addend),
                        plain.answer(student, exercise, factor, addend));
                break;
            }
        }
    }

    private void ask(int kind) {
        switch (kind) {
            case 0: {
                int lesson = lesson();
                due("versionOf " + lesson, () -> bench.versionOf(lesson), plain.versionOf(lesson));
                break;
            }
            case 1: {
                int student = student();
                due("openLessons " + student, () -> bench.openLessons(student), plain.openLessons(student));
                break;
            }
            case 2: {
                int student = student();
                int exercise = exercise();
                due("reason " + student + " " + exercise, () -> bench.reason(student, exercise), plain.reason(student, exercise));
                break;
            }
            case 3: {
                int student = student();
                int exercise = exercise();
                due("bestAnswer " + student + " " + exercise,
                        () -> bench.bestAnswer(student, exercise), plain.bestAnswer(student, exercise));
                break;
            }
            case 4:
            case 5: {
                int student = student();
                int lesson = lesson();
                due("mastery " + student + " " + lesson, () -> bench.mastery(student, lesson), plain.mastery(student, lesson));
                due("masteryAnew " + student + " " + lesson,
                        () -> bench.masteryAnew(student, lesson), plain.mastery(student, lesson));
                break;
            }
            case 6: {
                int student = student();
                int course = course();
                due("certificateOf " + student + " " + course,
                        () -> bench.certificateOf(student, course), plain.certificateOf(student, course));
                break;
            }
            case 7: {
                int certificate = from(0, plain.certificates.size() - 1);
                due("doesStand " + certificate, () -> bench.doesStand(certificate), plain.doesStand(certificate));
                break;
            }
            case 8: {
                int position = from(0, plain.appeals.size() - 1);
                due("appealAt " + position, () -> bench.appealAt(position), plain.appealAt(position));
                break;
            }
            case 9: {
                int position = from(0, plain.harmed.size() - 1);
                due("harmedAt " + position, () -> bench.harmedAt(position), plain.harmedAt(position));
                break;
            }
            case 10: {
                int index = from(0, plain.line.length() - 1);
                due("lineAt " + index, () -> bench.lineAt(index), plain.lineAt(index));
                break;
            }
            case 11: {
                due("answerCount", () -> bench.answerCount(), plain.answers.size());
                due("appealCount", () -> bench.appealCount(), plain.appeals.size());
                due("harmedCount", () -> bench.harmedCount(), plain.harmed.size());
                break;
            }
            case 12: {
                due("today", () -> bench.today(), plain.day);
                due("revoked", () -> bench.revoked(), plain.revoked());
                due("isConsistent", () -> bench.isConsistent(), true);
                break;
            }
            case 13:
                due("meanGrade", () -> bench.meanGrade(), plain.meanGrade());
                break;
            case 14:
                due("standingShare", () -> bench.standingShare(), plain.standingShare());
                break;
            default:
                askAnswer(someAnswer(), kind);
                break;
        }
    }

    private void askAnswer(int answer, int kind) {
        switch (kind) {
            case 15:
                due("gradeOf " + answer, () -> bench.gradeOf(answer), plain.gradeOf(answer));
                break;
            case 16:
                due("gradeAnew " + answer, () -> bench.gradeAnew(answer), plain.gradeOf(answer));
                break;
            case 17:
                due("studentOf " + answer, () -> bench.studentOf(answer), plain.studentOf(answer));
                break;
            case 18:
                due("dayOf " + answer, () -> bench.dayOf(answer), plain.dayOf(answer));
                break;
            default: {
                int index = from(0, 5);
                due("creditOf " + answer + " " + index, () -> bench.creditOf(answer, index), plain.creditOf(answer, index));
                break;
            }
        }
    }

    private void due(String call, Checks.Call run, Object want) {
        Object got = Checks.outcome(run);
        calls++;
        told.append('\n').append(call).append(" answered ").append(got);
        if (!got.equals(want)) {
            wrong++;
            told.append(", due is ").append(want);
        }
        int end = call.indexOf(' ');
        String name = end < 0 ? call : call.substring(0, end);
        seen.merge(name + " " + want, 1, Integer::sum);
        if (!(want instanceof String)) {
            seen.merge(name + " value", 1, Integer::sum);
        }
    }

    private void dueOutcomes() {
        for (String row : OUTCOMES) {
            String[] words = row.split(" ");
            for (int i = 1; i < words.length; i++) {
                int times = seen.getOrDefault(words[0] + " " + written(words[i]), 0);
                if (times < FEWEST) {
                    wrong++;
                    System.out.println(words[0] + " " + words[i] + " came up " + times + " times");
                }
            }
        }
    }

    private static String written(String word) {
        switch (word) {
            case "INDEX":
                return PlainBench.INDEX;
            case "ARGUMENT":
                return PlainBench.ARGUMENT;
            case "STATE":
                return PlainBench.STATE;
            case "UNSUPPORTED":
                return PlainBench.UNSUPPORTED;
            case "ELEMENT":
                return PlainBench.ELEMENT;
            case "ARITHMETIC":
                return PlainBench.ARITHMETIC;
            default:
                return word;
        }
    }
}
