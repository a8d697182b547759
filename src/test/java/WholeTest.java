import java.util.ArrayList;
import java.util.List;

/** Promises 32, 57 and 59: knocking, what is asked of the whole, and the checksum. */
public final class WholeTest {
    private static final String ARGUMENT = "IllegalArgumentException";
    private static final int FACTS_OF_HOUSE = 14;

    private int wrong;

    public static void main(String[] args) {
        Runs runs = new Runs();
        knocks(runs);
        houses(runs);
        WholeTest test = new WholeTest();
        test.checksum("");
        test.checksum("link 0 1 3; link 1 2 4; link 3 0 9; priority 2 1; fall 3; leak 2 0 1; attach 7 3; zone 2 7 true");
        test.checksum(Runs.PAIR + "; read 0 0 0 0 4; write 1 3 1 2 2 999; tick 1; copy 2 1; breakSide 3 1; deny 3 2 true");
        test.checksum(Runs.PAIR + "; manner 0 true true; write 0 0 0 0 4 7; tick 9; read 0 1 1 5 3; leak 1 0 0; leak 1 0 0;"
            + "tick 5; copy 0 0; revert 0 0; knock; drain 3; control 1 2 3 2; tick 9; logout 5");
        test.checksum(Runs.PAIR + "; write 0 0 0 0 4 7; tick 9; breakSide 0 0; drain 2; write 0 0 2 4 4 9; tick 9; copy 2 0;"
            + "breakSide 2 1; crash 0; write 0 0 2 5 1 800; tick 9; mend 0 0");
        test.checksum(Runs.BOTH_PORTS + "; control 0 0 0 4; control 1 0 0 5; tick 2; crash 1; unlink 0 1");
        runs.end();
        if (test.wrong != 0) {
            System.exit(1);
        }
    }

    private static void knocks(Runs runs) {
        runs.run("promise 32: knocking counts with what was refused",
            "knock = 1; knock = 2; unlink 0 1 = -9; house 9 = 3; knock = 4; login 0 = -9; login 8 = IndexOutOfBoundsException",
            "knock = 6; house 9 = 6; house 4 = 0");
    }

    private static void houses(Runs runs) {
        runs.run("promise 57: the whole, in short",
            Runs.PAIR, "house 0 = 4; house 1 = 3; house 2 = 1; house 3 = 4; write 0 0 0 0 4 7 = 1; read 1 0 1 0 1 = 2; house 4 = 2",
            "house 5 = 2; house 8 = 6; house 13 = 0; tick 1 = 4; house 8 = 6; house 10 = 1; house 11 = 4; tick 3 = 9; house 5 = 2",
            "house 6 = 0; tick 3 = 11; house 5 = 1; house 6 = 1; house 7 = 0; house 8 = 2; abort 1 0; house 7 = 1; house 5 = 0",
            "house 8 = 0; house 6 = 1; leak 2 0 1; leak 0 0 0; house 12 = 2; house 10 = 7; house 11 = 24; house 9 = 0; knock",
            "house 9 = 1; fall 1; house 0 = 3; house 1 = 3; house 2 = 1; house 3 = 2; house 12 = 2; house 4 = 2",
            "link 2 3 1; house 1 = 2; house 2 = 2");
        runs.run("promise 57: both queues count",
            Runs.BOTH_PORTS, "attach 2 0; attach 3 0; attach 5 0; attach 7 0; zone 2 2 true; zone 2 5 true; zone 3 3 true",
            "zone 3 7 true; login 2; login 3; login 5; login 7; control 0 0 0 4; control 1 0 0 4; control 2 0 0 4; control 3 0 0 4",
            "tick 2; queue 0 = 2; queue 1 = 4; house 13 = 2; house 5 = 4; house 8 = 2");
        runs.each("promise 57: a wrong question", Runs.PAIR, ARGUMENT, "house -1", "house 14", "house 2147483647", "house -2147483648");
    }

    /** Each answer is asked of an object of its own, so that none gets more calls than the document lets it have. */
    private void checksum(String run) {
        long d = 7660;
        for (String question : questions(Integer.parseInt(ask(run, "house 4")))) {
            d = d * 31 + number(ask(run, question), question);
        }
        String got = ask(run, "digest");
        if (!got.equals(String.valueOf(d))) {
            wrong++;
            System.out.println("promise 59: digest of " + run + " answered " + got + ", due is " + d);
        }
    }

    private static String ask(String run, String question) {
        Calls calls = new Calls(Blockfabric.class);
        for (String call : run.split(";")) {
            if (!call.isBlank()) {
                calls.answer(call);
            }
        }
        return calls.answer(question);
    }

    private static long number(String answer, String question) {
        if (question.matches("(names|row|notices|buffer|told|cache|queue) .*")) {
            return answer.length();
        }
        return question.equals("isSound") ? answer.equals("true") ? 1 : 0 : Long.parseLong(answer);
    }

    private static List<String> questions(int exchanges) {
        List<String> asked = new ArrayList<>();
        each(asked, FACTS_OF_HOUSE, "house #");
        for (int from = 0; from < 4; from++) {
            each(asked, 7, "ofSwitch " + from + " #");
            each(asked, 4, "way " + from + " #", "far " + from + " #");
        }
        each(asked, 8, "at #", "address #", "names #", "row #", "notices #", "credits 0 # 0", "credits 1 # 0",
            "buffer 0 # 0", "buffer 1 # 0");
        for (int from = 0; from < 4; from++) {
            for (int to = 0; to < 4; to++) {
                if (from != to) {
                    asked.addAll(List.of("cost " + from + " " + to, "credits 2 " + from + " " + to, "buffer 2 " + from + " " + to));
                }
            }
        }
        each(asked, 4, "ofZone #");
        for (int host = 0; host < 4; host++) {
            each(asked, 4, "path " + host + " #");
            each(asked, 4, "told " + host + " #");
        }
        for (int number = 1; number <= exchanges; number++) {
            each(asked, 14, "ofExchange " + number + " #");
        }
        for (int volume = 0; volume < 4; volume++) {
            each(asked, 6, "ofVolume " + volume + " #");
            each(asked, 8, "value " + volume + " #", "onSide " + volume + " 0 #", "onSide " + volume + " 1 #",
                "copied " + volume + " 0 #", "copied " + volume + " 1 #");
            each(asked, 3, "ofSide " + volume + " 0 #");
            each(asked, 3, "ofSide " + volume + " 1 #");
        }
        asked.addAll(List.of("cache 0", "cache 1", "queue 0", "queue 1", "isSound"));
        return asked;
    }

    private static void each(List<String> asked, int bound, String... forms) {
        for (int i = 0; i < bound; i++) {
            for (String form : forms) {
                asked.add(form.replace("#", String.valueOf(i)));
            }
        }
    }
}
