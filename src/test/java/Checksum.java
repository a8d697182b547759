import java.util.ArrayList;
import java.util.List;

/** The checksum that promise 59 tells, reckoned from the answers to all questions that it has, in its order. */
final class Checksum {
    private static final int CALLS_AT_MOST = 512;

    private Checksum() {
    }

    /** No object gets more calls than the document lets it have. */
    static long due(List<String> calls) {
        long d = 7660;
        List<String> questions = questions(Integer.parseInt(behind(calls).answer("house 4")));
        int room = CALLS_AT_MOST - calls.size();
        for (int from = 0; from < questions.size(); from += room) {
            Calls asked = behind(calls);
            for (String question : questions.subList(from, Math.min(from + room, questions.size()))) {
                d = d * 31 + number(asked.answer(question), question);
            }
        }
        return d;
    }

    private static Calls behind(List<String> calls) {
        Calls made = new Calls(Blockfabric.class);
        for (String call : calls) {
            made.answer(call);
        }
        return made;
    }

    private static long number(String answer, String question) {
        if (question.matches("(names|row|notices|buffer|told|cache|queue) .*")) {
            return answer.length();
        }
        return question.equals("isSound") ? answer.equals("true") ? 1 : 0 : Long.parseLong(answer);
    }

    private static List<String> questions(int exchanges) {
        List<String> asked = new ArrayList<>();
        each(asked, 14, "house #");
        for (int from = 0; from < 4; from++) {
            each(asked, 7, "ofSwitch " + from + " #");
            each(asked, 4, "way " + from + " #", "far " + from + " #");
        }
        each(asked, 8, "at #", "address #", "names #", "row #", "notices #", "credits 0 # 0", "credits 1 # 0",
            "buffer 0 # 0", "buffer 1 # 0");
        for (int from = 0; from < 4; from++) {
            for (int to = 0; to < 4; to++) {
                if (from != to) {
                    String ends = from + " " + to;
                    asked.addAll(List.of("cost " + ends, "credits 2 " + ends, "buffer 2 " + ends));
                }
            }
        }
        each(asked, 4, "ofZone #");
        for (int host = 0; host < 4; host++) {
            each(asked, 4, "path " + host + " #");
            each(asked, 4, "told " + host + " #");
        }
        for (int number = 1; number <= exchanges; number++) {
            each(asked, 14, "ofExchange " + number + " #");
        }
        for (int volume = 0; volume < 4; volume++) {
            each(asked, 6, "ofVolume " + volume + " #");
            each(asked, 8, "value " + volume + " #", "onSide " + volume + " 0 #", "onSide " + volume + " 1 #",
                "copied " + volume + " 0 #", "copied " + volume + " 1 #");
            each(asked, 3, "ofSide " + volume + " 0 #");
            each(asked, 3, "ofSide " + volume + " 1 #");
        }
        asked.addAll(List.of("cache 0", "cache 1", "queue 0", "queue 1", "isSound"));
        return asked;
    }

    private static void each(List<String> asked, int bound, String... forms) {
        for (int i = 0; i < bound; i++) {
            for (String form : forms) {
                asked.add(form.replace("#", String.valueOf(i)));
            }
        }
    }
}
