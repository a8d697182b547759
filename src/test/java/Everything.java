import java.util.ArrayList;
import java.util.List;

/**
 * All that an object tells behind some calls, and what it tells later on, since some of what it keeps shows only then
 * (manners, what a copy kept, when an exchange began). Each object gets 512 calls at most.
 */
final class Everything {
    private static final int CALLS_AT_MOST = 512;
    private static final List<String> LATER = later();

    private Everything() {
    }

    /** The answers, each behind its question; two that are the same can not be told apart by any of these calls. */
    static List<String> of(List<String> calls) {
        List<String> answers = new ArrayList<>();
        int exchanges = Integer.parseInt(behind(calls).answer("house 4"));
        ask(calls, questions(exchanges), answers);
        List<String> calledLater = new ArrayList<>(calls);
        calledLater.addAll(LATER);
        Calls later = behind(calls);
        for (String call : LATER) {
            answers.add("later " + call + " = " + later.answer(call));
        }
        ask(calledLater, questions(exchanges), answers);
        return answers;
    }

    private static void ask(List<String> calls, List<String> questions, List<String> answers) {
        int room = CALLS_AT_MOST - calls.size();
        if (room < 1) {
            throw new IllegalArgumentException("no question is left behind " + calls.size() + " calls");
        }
        for (int from = 0; from < questions.size(); from += room) {
            Calls asked = behind(calls);
            for (String question : questions.subList(from, Math.min(from + room, questions.size()))) {
                answers.add(question + " = " + asked.answer(question));
            }
        }
    }

    private static Calls behind(List<String> calls) {
        Calls made = new Calls(Blockfabric.class);
        for (String call : calls) {
            made.answer(call);
        }
        return made;
    }

    static List<String> questions(int exchanges) {
        List<String> asked = new ArrayList<>();
        each(asked, 14, "house #");
        each(asked, 8, "at #", "address #", "names #", "row #", "notices #", "credits 0 # 0", "credits 1 # 0",
            "buffer 0 # 0", "buffer 1 # 0");
        for (int one = 0; one < 4; one++) {
            each(asked, 7, "ofSwitch " + one + " #");
            each(asked, 4, "way " + one + " #", "far " + one + " #", "cost " + one + " #", "credits 2 " + one + " #",
                "buffer 2 " + one + " #", "path " + one + " #", "told " + one + " #");
        }
        each(asked, 4, "ofZone #", "values #");
        for (int volume = 0; volume < 4; volume++) {
            each(asked, 6, "ofVolume " + volume + " #");
            each(asked, 3, "ofSide " + volume + " 0 #", "ofSide " + volume + " 1 #");
            each(asked, 8, "value " + volume + " #", "onSide " + volume + " 0 #", "onSide " + volume + " 1 #",
                "copied " + volume + " 0 #", "copied " + volume + " 1 #");
        }
        for (int number = 1; number <= exchanges; number++) {
            each(asked, 14, "ofExchange " + number + " #");
        }
        each(asked, 2, "cache #", "queue #", "isUp #");
        asked.addAll(List.of("isSound", "digest"));
        return asked;
    }

    private static List<String> later() {
        List<String> calls = new ArrayList<>();
        each(calls, 4, "manner # true true", "again # 0", "again # 1", "again # 2", "again # 3");
        calls.addAll(List.of("tick 2", "zone 3 0 true", "zone 3 4 true", "recover", "tick 20"));
        each(calls, 4, "told # 0", "told # 1", "told # 2", "told # 3");
        each(calls, 4, "forget # 0", "revert # 1", "forget # 1");
        calls.addAll(List.of("logout 0", "logout 5", "link 2 3 5", "drain 3", "crash 1", "tick 20"));
        each(calls, 8, "notice #");
        return calls;
    }

    private static void each(List<String> calls, int bound, String... forms) {
        for (int i = 0; i < bound; i++) {
            for (String form : forms) {
                calls.add(form.replace("#", String.valueOf(i)));
            }
        }
    }
}
