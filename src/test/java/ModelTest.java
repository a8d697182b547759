import java.util.ArrayList;
import java.util.List;
import java.util.Random;

/**
 * All promises: runs of calls by chance (the same ones each time), each answer and the digest behind each call compared
 * with what the Model answers. Few of them are wrong calls; most come on a fabric that stands.
 */
public final class ModelTest {
    private static final int RUNS = 400;
    private static final int CALLS_A_RUN = 250;
    private static final int TOLD_AT_MOST = 5;

    /** How often, the call, and from where to where each argument is; b is a boolean. */
    private static final String[] DISTURBANCES = {
        "6 link 0-3 0-3 1-9", "3 unlink 0-3 0-3", "2 fall 0-3", "4 rise 0-3", "3 priority 0-3 1-9",
        "5 attach 0-7 -1-3", "14 login 0-7", "3 logout 0-7", "4 zone 0-3 0-7 b", "2 crash 0-1", "5 restart 0-1",
    };
    private static final String[] ACTIONS = {
        "14 read 0-3 0-3 0-3 0-7 1-4", "16 write 0-3 0-3 0-3 0-7 1-4 0-999", "14 control 0-3 0-3 0-3 2-6",
        "10 read 0-3 0-3 0-0 0-4 1-4", "10 write 0-3 0-3 0-0 0-4 1-4 0-999", "20 control 0-3 0-3 0-0 3-4",
        "8 again 0-3 0-3", "3 abort 0-3 0-3", "4 manner 0-3 b b", "2 deny 0-3 0-3 b",
        "10 spoil 0-2 0-3 0-3", "3 leak 0-2 0-7 0-3", "1 recover", "4 notice 0-7", "30 tick 1-2", "3 tick 1-20",
        "4 drain 1-32", "2 breakSide 0-3 0-1", "2 mend 0-3 0-1", "2 step 0-3 0-1 1-8",
        "4 breakSide 0-0 0-1", "6 mend 0-0 0-1", "12 step 0-0 0-1 1-3",
        "5 copy 0-3 0-1", "3 revert 0-3 0-1", "2 forget 0-3 0-1", "1 knock",
    };
    private static final String[] QUESTIONS = {
        "1 ofSwitch 0-3 0-6", "1 cost 0-3 0-3", "1 way 0-3 0-3", "1 far 0-3 0-3", "1 address 0-7", "4 names 0-7",
        "1 at 0-7", "1 ofZone 0-3", "1 path 0-3 0-3", "1 credits 0-2 0-7 0-3", "12 buffer 0-2 0-7 0-3",
        "8 notices 0-7", "8 row 0-7", "4 queue 0-1", "12 told 0-3 0-3", "1 ofExchange 1-20 0-13", "1 value 0-3 0-7",
        "3 values 0-3", "1 onSide 0-3 0-1 0-7", "1 ofSide 0-3 0-1 0-2", "1 copied 0-3 0-1 0-7", "6 cache 0-1",
        "1 ofVolume 0-3 0-5", "1 isUp 0-1", "1 house 0-13", "1 isSound",
    };

    private int wrong;

    public static void main(String[] args) {
        ModelTest test = new ModelTest();
        List<String> wild = byWeight(ACTIONS, DISTURBANCES);
        List<String> calm = byWeight(ACTIONS, ACTIONS, ACTIONS, ACTIONS, ACTIONS, ACTIONS, DISTURBANCES);
        for (int run = 0; run < RUNS && test.wrong < TOLD_AT_MOST; run++) {
            test.compare(run, calls(new Random(run), run, run % 3 == 0 ? wild : calm));
        }
        if (test.wrong != 0) {
            System.exit(1);
        }
    }

    private static List<String> byWeight(String[]... tables) {
        List<String> calls = new ArrayList<>();
        for (String[] table : tables) {
            for (String line : table) {
                int blank = line.indexOf(' ');
                for (int i = Integer.parseInt(line.substring(0, blank)); i > 0; i--) {
                    calls.add(line.substring(blank + 1));
                }
            }
        }
        return calls;
    }

    private static List<String> calls(Random chance, int run, List<String> actions) {
        List<String> calls = new ArrayList<>();
        List<String> questions = byWeight(new String[][] {QUESTIONS});
        if (run % 9 != 0) {
            raise(chance, calls);
        }
        while (calls.size() < CALLS_A_RUN) {
            List<String> table = chance.nextInt(4) == 0 ? questions : actions;
            calls.add(call(chance, table.get(chance.nextInt(table.size()))));
        }
        return calls;
    }

    /** A fabric in which most see each other, so that commands come through; in some, by both ports of a controller. */
    private static void raise(Random chance, List<String> calls) {
        for (int which = 1; which < 4; which++) {
            calls.add("link " + chance.nextInt(which) + " " + which + " " + (1 + chance.nextInt(9)));
        }
        int spread = 1 + chance.nextInt(4);
        boolean isParted = chance.nextBoolean();
        for (int node = 0; node < 8; node++) {
            int zone = isParted ? node / 2 % 2 : chance.nextInt(8) / 7;
            calls.add("attach " + node + " " + chance.nextInt(spread));
            calls.add("zone " + zone + " " + node + " true");
            calls.add("login " + node);
        }
        for (int host = 0; host < 4; host++) {
            calls.add("manner " + host + " " + chance.nextBoolean() + " " + (chance.nextInt(3) == 0));
        }
    }

    private static String call(Random chance, String form) {
        String[] words = form.split(" ");
        StringBuilder call = new StringBuilder(words[0]);
        for (int i = 1; i < words.length; i++) {
            call.append(' ').append(argument(chance, words[i]));
        }
        return call.toString();
    }

    private static String argument(Random chance, String range) {
        if (range.equals("b")) {
            return String.valueOf(chance.nextBoolean());
        }
        int dash = range.indexOf('-', 1);
        int least = Integer.parseInt(range.substring(0, dash));
        int most = Integer.parseInt(range.substring(dash + 1));
        switch (chance.nextInt(150)) {
            case 0:
                return String.valueOf(least - 1);
            case 1:
                return String.valueOf(most + 1);
            case 2:
                return String.valueOf(chance.nextBoolean() ? Integer.MIN_VALUE : Integer.MAX_VALUE);
            default:
                return String.valueOf(least + chance.nextInt(most - least + 1));
        }
    }

    private void compare(int run, List<String> calls) {
        Calls program = new Calls(Blockfabric.class);
        Calls model = new Calls(Model.class);
        for (int i = 0; i < calls.size(); i++) {
            String got = program.answer(calls.get(i));
            String want = model.answer(calls.get(i));
            if (!got.equals(want) || !program.answer("digest").equals(model.answer("digest"))) {
                wrong++;
                System.out.println("run " + run + ": " + calls.subList(0, i + 1));
                System.out.println("  answered " + got + ", the model " + want + " (or the digests are unlike)");
                return;
            }
        }
    }
}
