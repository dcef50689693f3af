/**
 * Asks a bench for all that it tells, and uses it further, until its calls are used up. Two benches
 * are in the same state if all kinds of probes are told the same; each kind wants a bench of its own.
 */
final class Probe {
    static final int KINDS = 11;
    private static final String INDEX = "IndexOutOfBoundsException";
    /** As many answers as leave calls for all their cases. */
    private static final int SOME_ANSWERS = 40;

    private final Bench bench;
    private final StringBuilder told = new StringBuilder();

    private Probe(Bench bench) {
        this.bench = bench;
    }

    static String told(Bench bench, int kind) {
        Probe probe = new Probe(bench);
        probe.ask(kind);
        return probe.told.toString();
    }

    private void ask(int kind) {
        switch (kind) {
            case 0:
                figures();
                break;
            case 1:
                row("gradeOf", 100);
                row("gradeAnew", 100);
                break;
            case 2:
                row("studentOf", 100);
                row("dayOf", 100);
                break;
            case 3:
                row("appealAt", 100);
                row("harmedAt", 100);
                break;
            case 4:
                table("creditOf", SOME_ANSWERS, 6);
                break;
            case 5:
                table("reason", 8, 12);
                table("bestAnswer", 8, 12);
                break;
            case 6:
                table("mastery", 8, 8);
                table("masteryAnew", 8, 8);
                table("certificateOf", 8, 4);
                break;
            case 7:
                growth();
                break;
            case 8:
                row("appeal", 100);
                untilRefused("decide 1");
                row("gradeOf", 100);
                break;
            case 9:
                mends();
                break;
            default:
                days();
                break;
        }
    }

    private void figures() {
        row("lineAt", 28);
        String[] calls = {"today", "answerCount", "appealCount", "harmedCount", "revoked", "meanGrade",
            "standingShare", "isConsistent"};
        for (String call : calls) {
            one(call);
        }
        row("versionOf", 8);
        row("openLessons", 8);
        row("doesStand", 30);
    }

    /** Adds all that is taken, by which the number of what there is comes out. */
    private void growth() {
        for (int exercise = 0; exercise < 12; exercise++) {
            untilRefused("addCase " + exercise + " 1 1");
        }
        untilRefused("addCohort 0 0");
        row("addStudent", 5);
        untilRefused("addStudent 0");
        untilRefused("addLesson 0 0");
        untilRefused("addExercise 0 0 0 0");
        untilRefused("addCourse 1 1");
    }

    private void mends() {
        for (int student = 0; student < 8; student++) {
            for (int exercise = 0; exercise < 12; exercise++) {
                one("answer " + student + " " + exercise + " 0 0");
            }
        }
        for (int exercise = 0; exercise < 12; exercise++) {
            one("mend " + exercise + " 0 99");
            one("harmedAt 0");
        }
        row("versionOf", 8);
        row("doesStand", 30);
        row("gradeOf", 100);
    }

    private void days() {
        table("issue", 8, 4);
        one("pass 1");
        table("reason", 8, 12);
        one("pass 99");
        table("mastery", 8, 8);
        one("today");
    }

    private String one(String call) {
        if (!bench.hasCallsLeft()) {
            return INDEX;
        }
        String answered = bench.ask(call);
        told.append(call).append(": ").append(answered).append('\n');
        return answered;
    }

    /** Whether there was one at least; ends at the first number that is refused. */
    private boolean row(String call, int most) {
        for (int i = 0; i <= most; i++) {
            if (one(call + " " + i).equals(INDEX)) {
                return i > 0;
            }
        }
        return true;
    }

    private void table(String call, int rows, int columns) {
        for (int i = 0; i <= rows; i++) {
            if (!row(call + " " + i, columns)) {
                return;
            }
        }
    }

    private void untilRefused(String call) {
        while (!one(call).endsWith("Exception")) {
            if (!bench.hasCallsLeft()) {
                return;
            }
        }
    }
}
