import java.util.ArrayList;
import java.util.List;
import java.util.NoSuchElementException;

/** Counts the answers that are not as due, and prints each. */
final class Checks {
    interface Call {
        Object run();
    }

    interface Numbered {
        Object run(int number);
    }

    private int made;
    private int wrong;

    void due(String call, Object got, Object want) {
        made++;
        if (!got.equals(want)) {
            wrong++;
            System.out.println(call + " answered " + got + ", due is " + want);
        }
    }

    /** The very class counts, so that an exception of the machine is never taken for a due one. */
    void dueThrow(CourseForge bench, String call, Class<? extends RuntimeException> want, Call run) {
        String before = picture(bench);
        due(call, outcome(run), want.getSimpleName());
        due(call + ", which changes nothing", picture(bench), before);
    }

    void throwsIndex(CourseForge bench, String call, Call run) {
        dueThrow(bench, call, IndexOutOfBoundsException.class, run);
    }

    void throwsArgument(CourseForge bench, String call, Call run) {
        dueThrow(bench, call, IllegalArgumentException.class, run);
    }

    void throwsState(CourseForge bench, String call, Call run) {
        dueThrow(bench, call, IllegalStateException.class, run);
    }

    void throwsElement(CourseForge bench, String call, Call run) {
        dueThrow(bench, call, NoSuchElementException.class, run);
    }

    void throwsUnsupported(CourseForge bench, String call, Call run) {
        dueThrow(bench, call, UnsupportedOperationException.class, run);
    }

    void finish(String test) {
        System.out.println(test + ": " + made + " checks, " + wrong + " wrong");
        if (wrong != 0) {
            System.exit(1);
        }
    }

    /** What a call answers, or the simple name of what it throws, told apart if it is not its own. */
    static Object outcome(Call run) {
        try {
            return run.run();
        } catch (RuntimeException thrown) {
            String name = thrown.getClass().getSimpleName();
            StackTraceElement[] trace = thrown.getStackTrace();
            boolean isOwn = trace.length > 0 && trace[0].getClassName().startsWith("CourseForge");
            return isOwn ? name : name + " of the machine or the library";
        }
    }

    static String line(CourseForge bench) {
        StringBuilder read = new StringBuilder();
        for (int i = 0; outcome(at(bench, i)) instanceof Character sign; i++) {
            read.append(sign.charValue());
        }
        return read.toString();
    }

    private static Call at(CourseForge bench, int index) {
        return () -> bench.lineAt(index);
    }

    static String written(CourseForge bench, int answer) {
        int length = bench.writeAnswer(answer);
        return length + ":" + line(bench);
    }

    static String appeals(CourseForge bench) {
        StringBuilder read = new StringBuilder();
        for (int i = 0; i < bench.appealCount(); i++) {
            read.append(bench.appealAt(i)).append(' ');
        }
        return read.toString();
    }

    static String harmed(CourseForge bench) {
        StringBuilder read = new StringBuilder();
        for (int i = 0; i < bench.harmedCount(); i++) {
            read.append(bench.harmedAt(i)).append(' ');
        }
        return read.toString();
    }

    /** All that the calls without effect tell of a bench; numbers are tried until one is refused. */
    static String picture(CourseForge bench) {
        StringBuilder seen = new StringBuilder();
        seen.append(bench.today()).append('/').append(bench.revoked()).append('/');
        seen.append(outcome(bench::meanGrade)).append('/').append(outcome(bench::standingShare));
        seen.append("\nappeals ").append(appeals(bench)).append("\nharmed ").append(harmed(bench));
        seen.append("\nline ").append(line(bench));
        seen.append("\nversions ").append(row(8, bench::versionOf));
        seen.append("\ncertificates ").append(row(30, bench::doesStand));
        seen.append("\nstudents ").append(row(100, bench::studentOf));
        seen.append("\ndays ").append(row(100, bench::dayOf));
        seen.append("\ngrades ").append(row(100, bench::gradeOf));
        seen.append("\nanew ").append(row(100, bench::gradeAnew));
        for (int i = 0; i < bench.answerCount(); i++) {
            int answer = i;
            seen.append("\ncredits ").append(row(7, index -> bench.creditOf(answer, index)));
        }
        List<Object> open = row(8, bench::openLessons);
        seen.append("\nopen ").append(open);
        for (int i = 0; i < open.size(); i++) {
            int student = i;
            seen.append("\nstudent ").append(row(12, exercise -> bench.reason(student, exercise)));
            seen.append(" / ").append(row(12, exercise -> bench.bestAnswer(student, exercise)));
            seen.append(" / ").append(row(8, lesson -> bench.mastery(student, lesson)));
            seen.append(" / ").append(row(4, course -> bench.certificateOf(student, course)));
        }
        return seen.toString();
    }

    private static List<Object> row(int most, Numbered call) {
        List<Object> seen = new ArrayList<>();
        for (int i = 0; i < most; i++) {
            int number = i;
            Object answered = outcome(() -> call.run(number));
            if (answered.equals("IndexOutOfBoundsException")) {
                return seen;
            }
            seen.add(answered);
        }
        return seen;
    }
}
