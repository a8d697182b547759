import java.util.ArrayList;
import java.util.List;
import java.util.Set;

/**
 * Runs of calls, each on a new object. A row is one call or several with ";" between, each with the answer that is due
 * behind "=", or without one. Behind each run a second object gets the same calls but for those that must change
 * nothing: what throws and what only asks is left out, and what is refused is a knock. It must tell just the same.
 */
final class Runs {
    /** Hosts 0 and 1 at the switch 0, ports 4 and 5 at the switch 1, a link between, all in one zone and logged in. */
    static final String PAIR = "link 0 1 2; attach 0 0; attach 1 0; attach 4 1; attach 5 1;"
        + "zone 0 0 true; zone 0 1 true; zone 0 4 true; zone 0 5 true; login 0; login 1; login 4; login 5";
    /** The hosts 0 and 1 and the ports 4 and 6 at the switch 0; 0 sees 4 alone, 1 sees 6 alone. */
    static final String BOTH_PORTS = "attach 0 0; attach 1 0; attach 4 0; attach 6 0;"
        + "zone 0 0 true; zone 0 4 true; zone 1 1 true; zone 1 6 true; login 0; login 1; login 4; login 6";

    /** The same with much of what an object keeps: commands on their way, notices, leaks, caches, a copy, marks. */
    static final String RICH = PAIR + "; write 1 0 0 0 4 7; tick 9; copy 0 0; write 1 0 0 1 2 50; tick 9; drain 1;"
        + "breakSide 1 1; write 1 0 1 0 2 5; tick 9; drain 3; manner 0 true true; link 2 3 4; leak 2 3 2; leak 0 5 0;"
        + "deny 1 3 true; write 0 3 2 0 4 1; read 1 3 1 0 4; control 0 1 0 4; abort 0 1; tick 2; knock;";

    private static final String REFUSED = "-9";
    private static final Set<String> QUESTIONS = Set.of("ofSwitch", "cost", "way", "far", "address", "names", "at",
        "ofZone", "path", "credits", "buffer", "notices", "row", "queue", "told", "ofExchange", "value", "values",
        "onSide", "ofSide", "copied", "cache", "ofVolume", "isUp", "house", "isSound", "digest");

    private int wrong;

    Runs run(String title, String... rows) {
        Calls object = new Calls(Blockfabric.class);
        List<String> called = new ArrayList<>();
        List<String> changing = new ArrayList<>();
        for (String part : calls(String.join(";", rows))) {
            int sign = part.indexOf('=');
            String call = (sign < 0 ? part : part.substring(0, sign)).trim();
            String got = object.answer(call);
            if (sign >= 0) {
                compare(title, call, got, part.substring(sign + 1).trim());
            }
            called.add(call);
            addIfChanging(changing, call, got);
        }
        compare(title, "isSound", object.answer("isSound"), "true");
        if (!called.equals(changing)) {
            alike(title + ": without what must change nothing", Everything.of(called), Everything.of(changing));
        }
        return this;
    }

    private static void addIfChanging(List<String> changing, String call, String got) {
        if (got.equals(REFUSED)) {
            changing.add("knock");
        } else if (!got.endsWith("Exception") && !QUESTIONS.contains(call.split(" ")[0])) {
            changing.add(call);
        }
    }

    static List<String> calls(String row) {
        List<String> calls = new ArrayList<>();
        for (String call : row.split(";")) {
            if (!call.isBlank()) {
                calls.add(call.trim());
            }
        }
        return calls;
    }

    /** A run of the same call with several arguments, all with one answer, behind a beginning. */
    Runs each(String title, String beginning, String answer, String... calls) {
        List<String> rows = new ArrayList<>();
        rows.add(beginning);
        for (String call : calls) {
            rows.add(call + " = " + answer);
        }
        return run(title, rows.toArray(new String[0]));
    }

    /** What the last one of these calls answers. */
    void answers(String title, List<String> calls, String due) {
        String last = calls.get(calls.size() - 1);
        compare(title, last, lastAnswer(calls), due);
    }

    void isLet(String title, List<String> calls, boolean isDone) {
        String got = lastAnswer(calls);
        if (got.endsWith("Exception") || got.endsWith("Error") || isDone && got.equals(REFUSED)) {
            wrong(title + ": " + calls.get(calls.size() - 1) + " is let, but answered " + got);
        }
    }

    private static String lastAnswer(List<String> calls) {
        Calls object = new Calls(Blockfabric.class);
        String got = "";
        for (String call : calls) {
            got = object.answer(call);
        }
        return got;
    }

    void alike(String title, List<String> got, List<String> due) {
        for (int i = 0; i < got.size() && i < due.size(); i++) {
            if (!got.get(i).equals(due.get(i))) {
                wrong(title + ": told is " + got.get(i) + ", due is " + due.get(i));
                return;
            }
        }
        if (got.size() != due.size()) {
            wrong(title + ": so many things are told: " + got.size() + ", due are " + due.size());
        }
    }

    private void compare(String title, String call, String got, String due) {
        if (!got.equals(due)) {
            wrong(title + ": " + call + " answered " + got + ", due is " + due);
        }
    }

    void wrong(String text) {
        wrong++;
        System.out.println(text);
    }

    void end() {
        if (wrong != 0) {
            System.out.println(wrong + " answers are not as due");
            System.exit(1);
        }
    }
}
