import java.util.ArrayList;
import java.util.List;

/**
 * Promises 2 to 57, each argument of each call: the last numbers that are let and the first ones that are not, on both
 * sides, and far off ones; which exception comes, and which one if two arguments are wrong; and that nothing is other
 * behind them.
 */
final class EdgesOfArguments {
    /** So that a change of anything would show. */
    private static final String MUCH = Runs.RICH;
    private static final String MESH =
        "link 0 1 1; link 0 2 1; link 0 3 1; link 1 2 1; link 1 3 1; link 2 3 1;";
    private static final String PLACED =
        "attach 0 0; attach 1 0; attach 2 0; attach 3 0; attach 4 0; attach 5 0; attach 6 0;" + "attach 7 0;";
    private static final String IN = PLACED
            + "zone 0 0 true; zone 0 1 true; zone 0 2 true; zone 0 3 true; zone 0 4 true;"
            + "login 0; login 1; login 2; login 3; login 4; login 5; login 6; login 7;";
    private static final String OPEN = IN + "control 0 1 0 4; control 3 1 0 4; control 1 0 0 4; control 1 3 0 4;";
    private static final String DOWN = "fall 0; fall 1; fall 2; fall 3;";
    private static final String COPIED = "copy 0 1; copy 3 1; copy 1 0; copy 1 1;";

    /**
     * A promise; its call with, for each argument, from where to where it is let and what is thrown elsewhere
     * (I IndexOutOfBoundsException, A IllegalArgumentException; * is not looked at); arguments that are let; and behind
     * which calls it is done then, or - if it need not be done.
     */
    private static final String[][] CALLS = {
        {"2", "link 0..3I 0..3I 1..9A", "1 2 5", ""},
        {"3", "unlink 0..3I 0..3I", "1 2", MESH},
        {"4", "fall 0..3I", "1", ""},
        {"5", "rise 0..3I", "1", DOWN},
        {"6", "priority 0..3I 1..9A", "1 5", ""},
        {"7", "attach 0..7I -1..3A", "1 1", ""},
        {"8", "login 0..7I", "1", PLACED},
        {"9", "logout 0..7I", "1", IN},
        {"10", "zone 0..3I 0..7I true", "1 1 true", ""},
        {"11", "read 0..3I 0..3I 0..3I 0..7A 1..4A", "1 1 1 0 1", IN},
        {"12", "write 0..3I 0..3I 0..3I 0..7A 1..4A 0..999A", "1 1 1 0 1 7", IN},
        {"13", "control 0..3I 0..3I 0..3I 2..6A", "1 1 1 4", IN},
        {"14", "again 0..3I 0..3I", "1 1", OPEN + "control 1 1 0 4; logout 4; login 4"},
        {"15", "abort 0..3I 0..3I", "1 1", OPEN + "control 1 1 0 4"},
        {"16", "manner 0..3I true false", "1 true false", ""},
        {"17", "deny 0..3I 0..3I true", "1 1 true", ""},
        {"18", "spoil 0..1A 0..7A *", "0 1 9", "-"},
        {"18", "spoil 0..2A 0..3A 0..3A", "2 1 2", "-"},
        {"19", "leak 0..1A 0..7A *", "0 1 9", PLACED},
        {"19", "leak 0..2A 0..3A 0..3A", "2 1 2", MESH + PLACED},
        {"21", "notice 0..7I", "1", ""},
        {"22", "tick 1..20A", "5", ""},
        {"23", "crash 0..1I", "0", ""},
        {"24", "restart 0..1I", "0", "crash 0; crash 1"},
        {"25", "drain 1..32A", "5", ""},
        {"26", "breakSide 0..3I 0..1I", "1 1", ""},
        {"27", "mend 0..3I 0..1I", "1 1", "-"},
        {"28", "step 0..3I 0..1I 1..8A", "1 1 5", "-"},
        {"29", "copy 0..3I 0..1I", "1 1", ""},
        {"30", "revert 0..3I 0..1I", "1 1", COPIED},
        {"31", "forget 0..3I 0..1I", "1 1", COPIED},
        {"33", "ofSwitch 0..3I 0..6A", "1 1", ""},
        {"34", "cost 0..3I 0..3I", "1 2", ""},
        {"35", "way 0..3I 0..3I", "1 2", ""},
        {"36", "far 0..3I 0..3I", "1 2", ""},
        {"37", "address 0..7I", "1", ""},
        {"38", "names 0..7I", "1", ""},
        {"39", "at 0..7I", "1", ""},
        {"40", "ofZone 0..3I", "1", ""},
        {"41", "path 0..3I 0..3I", "1 1", ""},
        {"42", "credits 0..1A 0..7A *", "0 1 9", ""},
        {"42", "credits 0..2A 0..3A 0..3A", "2 1 2", ""},
        {"43", "buffer 0..1A 0..7A *", "0 1 9", ""},
        {"43", "buffer 0..2A 0..3A 0..3A", "2 1 2", ""},
        {"44", "notices 0..7I", "1", ""},
        {"45", "row 0..7I", "1", ""},
        {"46", "queue 0..1I", "1", ""},
        {"47", "told 0..3I 0..3I", "1 1", ""},
        {"48", "ofExchange 1..6I 0..13A", "1 1", MUCH},
        {"49", "value 0..3I 0..7I", "1 1", ""},
        {"50", "values 0..3I", "1", ""},
        {"51", "onSide 0..3I 0..1I 0..7I", "1 1 1", ""},
        {"52", "ofSide 0..3I 0..1I 0..2A", "1 1 1", ""},
        {"53", "copied 0..3I 0..1I 0..7I", "1 1 1", ""},
        {"54", "cache 0..1I", "1", ""},
        {"55", "ofVolume 0..3I 0..5A", "1 1", ""},
        {"56", "isUp 0..1I", "1", ""},
        {"57", "house 0..13A", "1", ""},
    };

    private final Sentences sentences;

    private EdgesOfArguments(Sentences sentences) {
        this.sentences = sentences;
    }

    static void all(Sentences sentences) {
        EdgesOfArguments edges = new EdgesOfArguments(sentences);
        for (String[] call : CALLS) {
            edges.bounds("promise " + call[0], call[1].split(" "), call[2].split(" "), call[3]);
        }
        edges.same();
        edges.blocks();
        edges.numbersOfExchanges();
        edges.states();
    }

    private void bounds(String part, String[] form, String[] base, String beginning) {
        List<String> let = new ArrayList<>();
        List<String> index = new ArrayList<>();
        List<String> argument = new ArrayList<>();
        List<String> first = new ArrayList<>();
        for (int i = 1; i < form.length; i++) {
            for (String bound : lastOnes(form[i])) {
                let.add(with(form[0], base, i, bound));
            }
            for (String wrong : wrongOnes(form[i])) {
                (form[i].endsWith("I") ? index : argument).add(with(form[0], base, i, wrong));
                for (int j = i + 1; j < form.length; j++) {
                    for (String other : wrongOnes(form[j])) {
                        String[] both = base.clone();
                        both[i - 1] = wrong;
                        if (form[i].endsWith("I") == form[j].endsWith("I")) {
                            (form[i].endsWith("I") ? index : argument).add(with(form[0], both, j, other));
                        } else {
                            first.add(with(form[0], both, j, other));
                        }
                    }
                }
            }
        }
        letAtTheBounds(part, form[0], beginning, let);
        throwAll(part, Sentences.INDEX, index);
        throwAll(part, Sentences.ARGUMENT, argument);
        if (!first.isEmpty()) {
            sentences.thrown("description", "If several exceptions apply, the one that is named first is thrown.",
                Sentences.INDEX, MUCH, first.toArray(new String[0]));
        }
    }

    private void letAtTheBounds(String part, String name, String beginning, List<String> calls) {
        String words = sentences.document().line(part, "Returns ");
        String[] all = calls.toArray(new String[0]);
        if (beginning.equals("-")) {
            sentences.let(part, words, MUCH, all);
        } else {
            sentences.done(part, words, beginning, all);
        }
    }

    private void throwAll(String part, String exception, List<String> calls) {
        if (!calls.isEmpty()) {
            String words = sentences.document().line(part, "Throws " + exception);
            sentences.thrown(part, words, exception, MUCH, calls.toArray(new String[0]));
        }
    }

    private void same() {
        String[][] names = {{"promise 2", "link", " 5"}, {"promise 3", "unlink", ""}, {"promise 34", "cost", ""}};
        for (String[] call : names) {
            List<String> calls = new ArrayList<>();
            for (int which = 0; which < 4; which++) {
                calls.add(call[1] + " " + which + " " + which + call[2]);
            }
            String words = "Throws IndexOutOfBoundsException if one or other is no SWITCH, or both are the same";
            sentences.thrown(call[0], words, Sentences.INDEX, MUCH, calls.toArray(new String[0]));
        }
        sentences.thrown("promise 2", "or both are the same .. Throws IllegalArgumentException if cost is not 1 to 9",
            Sentences.INDEX, MUCH, "link 0 0 0", "link 3 3 10", "link 1 1 -1");
    }

    private void blocks() {
        String read = "there are not so many BLOCKS from there on";
        sentences.done("promise 11", read, IN, "read 0 0 0 4 4", "read 0 0 0 5 3", "read 0 0 0 6 2", "read 0 0 0 7 1");
        sentences.thrown("promise 11", read, Sentences.ARGUMENT, MUCH, "read 0 0 0 5 4", "read 0 0 0 6 3",
            "read 0 0 0 7 2", "read 0 0 0 6 4", "read 0 0 0 7 4", "read 0 0 0 8 1");
        sentences.done("promise 12", read, IN, "write 0 0 0 4 4 0", "write 0 0 0 5 3 0", "write 0 0 0 6 2 0",
            "write 0 0 0 7 1 0");
        sentences.thrown("promise 12", read, Sentences.ARGUMENT, MUCH, "write 0 0 0 5 4 0", "write 0 0 0 6 3 0",
            "write 0 0 0 7 2 0", "write 0 0 0 6 4 0", "write 0 0 0 7 4 0", "write 0 0 0 8 1 0");
        sentences.thrown("promise 11", read, Sentences.ARGUMENT, MUCH, "read 0 0 0 -1 1", "read 0 0 0 -1 4",
            "read 0 0 0 -4 4");
    }

    private void numbersOfExchanges() {
        String words = "Throws IndexOutOfBoundsException if there is no such EXCHANGE";
        sentences.thrown("promise 48", words, Sentences.INDEX, IN, "ofExchange 0 0", "ofExchange 1 0",
            "ofExchange 1 14");
        sentences.thrown("promise 48", words, Sentences.INDEX, IN + "control 0 0 0 4", "ofExchange 0 0",
            "ofExchange 2 0");
        sentences.done("promise 48", words, IN + "control 0 0 0 4", "ofExchange 1 0");
    }

    private void states() {
        sentences.thrown("promise 4", "Throws IllegalStateException if it is DOWN", Sentences.STATE, DOWN,
            "fall 0", "fall 1", "fall 2", "fall 3");
        sentences.thrown("promise 5", "Throws IllegalStateException if it is UP", Sentences.STATE, MUCH,
            "rise 0", "rise 1", "rise 2", "rise 3");
        sentences.thrown("promise 23", "Throws IllegalStateException if it is DOWN", Sentences.STATE, MUCH
                + "crash 0; crash 1", "crash 0", "crash 1");
        sentences.thrown("promise 24", "Throws IllegalStateException if it is UP", Sentences.STATE, MUCH, "restart 0",
            "restart 1");
        sentences.thrown("promise 4", "Throws IndexOutOfBoundsException if there is no such SWITCH", Sentences.INDEX,
            DOWN, "fall 4", "fall -1", "rise 4", "rise -1");
        sentences.thrown("promise 23", "Throws IndexOutOfBoundsException if there is no such CONTROLLER",
            Sentences.INDEX, "crash 0; crash 1", "crash 2", "crash -1", "restart 2", "restart -1");
    }

    private static String with(String name, String[] base, int place, String number) {
        String[] all = base.clone();
        all[place - 1] = number;
        return name + " " + String.join(" ", all);
    }

    private static List<String> lastOnes(String range) {
        if (range.equals("*")) {
            return List.of("-2147483648", "-1", "8", "2147483647");
        }
        return isRange(range) ? List.of(least(range) + "", most(range) + "") : List.of();
    }

    private static List<String> wrongOnes(String range) {
        if (!isRange(range)) {
            return List.of();
        }
        return List.of(least(range) - 1 + "", most(range) + 1 + "", "-2147483648", "2147483647");
    }

    private static boolean isRange(String range) {
        return range.contains("..");
    }

    private static int least(String range) {
        return Integer.parseInt(range.substring(0, range.indexOf("..")));
    }

    private static int most(String range) {
        return Integer.parseInt(range.substring(range.indexOf("..") + 2, range.length() - 1));
    }
}
