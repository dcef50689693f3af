import java.util.ArrayList;
import java.util.List;

/**
 * Runs scripts, each on a new bench and about one sentence of the document, and counts those that fail.
 * A script has a row for each call:
 * <pre>
 * addStudent 0                                a call that must not throw
 * addStudent 0 = 1                            a call with the answer that is due
 * addStudent 4 throws IllegalStateException   a call that is refused, and that must change nothing
 * 8 x appeal # = #                            calls with the numbers 0 to 7 in place of each #
 * line = answer 0: 100 passed                 the whole line; "appeals" and "harmed" are lists
 * calls = 4                                   the number of calls until here
 * </pre>
 * "least" and "most" stand for the least and the greatest int.
 */
final class Scripts {
    private record Row(String call, String sign, String want) {
        boolean isRefused() {
            return sign.equals("throws");
        }

        boolean isDue(String got) {
            return sign.isEmpty() ? !got.contains("Exception") : got.equals(want);
        }
    }

    private int run;
    private int wrong;

    void due(int promise, String sentence, String script) {
        run++;
        List<Row> rows = rowsOf(script);
        Bench bench = new Bench();
        for (int i = 0; i < rows.size(); i++) {
            Row row = rows.get(i);
            String got = bench.ask(row.call());
            String fault = "";
            if (!row.isDue(got)) {
                fault = " answered " + got + ", due is " + (row.sign().isEmpty() ? "an answer" : row.want());
            } else if (row.isRefused()) {
                fault = change(rows.subList(0, i + 1));
            }
            if (!fault.isEmpty()) {
                wrong++;
                System.out.println("promise " + promise + ", " + sentence + ": row " + (i + 1) + ", " + row.call() + fault);
                return;
            }
        }
    }

    void finish(String test) {
        System.out.println(test + ": " + run + " scripts, " + wrong + " wrong");
        if (wrong != 0) {
            System.exit(1);
        }
    }

    /** How a bench differs for the refused calls among some rows from one without them; empty if it does not. */
    private static String change(List<Row> rows) {
        for (int kind = 0; kind < Probe.KINDS; kind++) {
            Bench with = new Bench();
            Bench without = new Bench();
            for (Row row : rows) {
                with.ask(row.call());
                if (!row.isRefused()) {
                    without.ask(row.call());
                }
            }
            without.countFrom(with);
            String changed = Probe.told(with, kind);
            String due = Probe.told(without, kind);
            if (!changed.equals(due)) {
                return " changed something: " + changed + "due is " + due;
            }
        }
        return "";
    }

    private static List<Row> rowsOf(String script) {
        List<Row> rows = new ArrayList<>();
        for (String text : script.lines().map(String::strip).filter(line -> !line.isEmpty()).toList()) {
            int cross = text.indexOf(" x ");
            if (cross < 0) {
                rows.add(rowOf(text));
                continue;
            }
            int times = Integer.parseInt(text.substring(0, cross));
            for (int i = 0; i < times; i++) {
                rows.add(rowOf(text.substring(cross + 3).replace("#", Integer.toString(i))));
            }
        }
        return rows;
    }

    private static Row rowOf(String text) {
        for (String sign : new String[] {"=", "throws"}) {
            int place = text.indexOf(" " + sign + " ");
            if (place >= 0) {
                return new Row(text.substring(0, place), sign, text.substring(place + sign.length() + 2));
            }
        }
        return new Row(text, "", "");
    }
}
