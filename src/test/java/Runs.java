import java.util.ArrayList;
import java.util.List;
import java.util.Set;

/**
 * Runs of calls, each on a new object. A row is one call or several with ";" between, each with the answer that is due
 * behind "=", or without one. Behind each run a second object gets the same calls but for those that must change
 * nothing: what throws and what only asks is left out, and what is refused is a knock. Its digest must be the same.
 */
final class Runs {
    /** Hosts 0 and 1 at the switch 0, ports 4 and 5 at the switch 1, a link between, all in one zone and logged in. */
    static final String PAIR = "link 0 1 2; attach 0 0; attach 1 0; attach 4 1; attach 5 1;"
        + "zone 0 0 true; zone 0 1 true; zone 0 4 true; zone 0 5 true; login 0; login 1; login 4; login 5";
    /** The hosts 0 and 1 and the ports 4 and 6 at the switch 0; 0 sees 4 alone, 1 sees 6 alone. */
    static final String BOTH_PORTS = "attach 0 0; attach 1 0; attach 4 0; attach 6 0;"
        + "zone 0 0 true; zone 0 4 true; zone 1 1 true; zone 1 6 true; login 0; login 1; login 4; login 6";

    private static final String REFUSED = "-9";
    private static final Set<String> QUESTIONS = Set.of("ofSwitch", "cost", "way", "far", "address", "names", "at",
        "ofZone", "path", "credits", "buffer", "notices", "row", "queue", "told", "ofExchange", "value", "values",
        "onSide", "ofSide", "copied", "cache", "ofVolume", "isUp", "house", "isSound", "digest");

    private int wrong;

    Runs run(String title, String... rows) {
        Calls calls = new Calls(Blockfabric.class);
        Calls quiet = new Calls(Blockfabric.class);
        for (String row : rows) {
            for (String part : row.split(";")) {
                int sign = part.indexOf('=');
                String call = (sign < 0 ? part : part.substring(0, sign)).trim();
                String got = calls.answer(call);
                if (sign >= 0) {
                    compare(title, call, got, part.substring(sign + 1).trim());
                }
                repeat(quiet, call, got);
            }
        }
        compare(title, "isSound", calls.answer("isSound"), "true");
        compare(title, "digest without what changes nothing", quiet.answer("digest"), calls.answer("digest"));
        return this;
    }

    private static void repeat(Calls quiet, String call, String got) {
        if (got.equals(REFUSED)) {
            quiet.answer("knock");
        } else if (!got.endsWith("Exception") && !QUESTIONS.contains(call.split(" ")[0])) {
            quiet.answer(call);
        }
    }

    /** A run of the same call with several arguments, all with one answer, behind a beginning. */
    Runs each(String title, String beginning, String answer, String... calls) {
        List<String> rows = new ArrayList<>();
        rows.add(beginning);
        for (String call : calls) {
            rows.add(call + " = " + answer);
        }
        return run(title, rows.toArray(new String[0]));
    }

    private void compare(String title, String call, String got, String want) {
        if (!got.equals(want)) {
            wrong++;
            System.out.println(title + ": " + call + " answered " + got + ", due is " + want);
        }
    }

    void end() {
        if (wrong != 0) {
            System.out.println(wrong + " answers are not as due");
            System.exit(1);
        }
    }
}
