import java.util.List;

/** Tests, each for one sentence of the document: its title names the part and has the words as they stand there. */
final class Sentences {
    static final String INDEX = "IndexOutOfBoundsException";
    static final String ARGUMENT = "IllegalArgumentException";
    static final String STATE = "IllegalStateException";

    private final Document document = new Document();
    private final Runs runs = new Runs();

    Document document() {
        return document;
    }

    private String title(String part, String words) {
        String title = part + ", \"" + words + "\"";
        if (!document.quote(part, words)) {
            runs.wrong(title + ": this does not stand in the document");
        }
        return title;
    }

    /** A run as Runs has them. */
    void holds(String part, String words, String... rows) {
        runs.run(title(part, words), rows);
    }

    /** Each call, on an object of its own behind the beginning, is refused, and changes no more than a knock does. */
    void refused(String part, String words, String beginning, String... calls) {
        String title = title(part, words);
        List<String> due = Everything.of(with(beginning, "knock"));
        for (String call : calls) {
            List<String> called = with(beginning, call);
            runs.answers(title, called, "-9");
            runs.alike(title + ": " + call + " is refused and changes house(9) alone", Everything.of(called), due);
        }
    }

    /** All calls, one behind the other on one object, throw this, and nothing is other than without them. */
    void thrown(String part, String words, String exception, String beginning, String... calls) {
        String title = title(part, words);
        List<String> called = Runs.calls(beginning);
        List<String> due = Everything.of(called);
        for (String call : calls) {
            called.add(call);
            runs.answers(title, called, exception);
        }
        runs.alike(title + ": what throws changes nothing", Everything.of(called), due);
    }

    /** Each call, on an object of its own behind the beginning, throws nothing. */
    void let(String part, String words, String beginning, String... calls) {
        for (String call : calls) {
            runs.isLet(title(part, words), with(beginning, call), false);
        }
    }

    /** Likewise, and is not refused. */
    void done(String part, String words, String beginning, String... calls) {
        for (String call : calls) {
            runs.isLet(title(part, words), with(beginning, call), true);
        }
    }

    /** The words stand in the document, and a test is for them. */
    void need(String part, String words) {
        title(part, words);
    }

    void wrong(String part, String words, String what) {
        runs.wrong(title(part, words) + ": " + what);
    }

    /** What the last of these calls answers, for runs too long to ask more behind them. */
    void last(String part, String words, List<String> calls, String due) {
        runs.answers(title(part, words), calls, due);
    }

    void alike(String part, String words, List<String> got, List<String> due) {
        runs.alike(title(part, words), got, due);
    }

    void checksum(String part, String words, String run) {
        List<String> calls = Runs.calls(run);
        String due = String.valueOf(Checksum.due(calls));
        calls.add("digest");
        runs.answers(title(part, words) + " behind " + run, calls, due);
    }

    private static List<String> with(String beginning, String call) {
        List<String> called = Runs.calls(beginning);
        called.add(call);
        return called;
    }

    void end() {
        runs.end();
    }
}
