/** Promises 18 to 22, 42, 43 and 45: lines, buffers, credits, rows, notices taken, and ticks. */
public final class FramesTest {
    private static final String INDEX = "IndexOutOfBoundsException";
    private static final String ARGUMENT = "IllegalArgumentException";

    /** Host 0 and port 4 at one switch. */
    private static final String ONE_SWITCH =
        "attach 0 0; attach 4 0; zone 0 0 true; zone 0 4 true; login 0; login 4";
    /** Host 0 at the switch 1, port 4 at the switch 0 and port 5 at the switch 2; nothing crosses between switches. */
    private static final String BETWEEN_TWO = "link 0 1 1; link 1 2 1; attach 0 1; attach 4 0; attach 5 2;"
        + "zone 0 0 true; zone 0 4 true; zone 0 5 true; login 0; login 4; login 5;"
        + "leak 2 1 0; leak 2 1 0; leak 2 1 2; leak 2 1 2";
    private static final String[] WRONG_LINES = {
        "-1 0 0", "3 0 0", "0 -1 0", "0 8 0", "1 -1 0", "1 8 0", "2 -1 0", "2 4 0", "2 0 -1", "2 0 4", "2 7 1",
        "2147483647 0 0", "1 2147483647 0", "2 0 -2147483648",
    };

    public static void main(String[] args) {
        Runs runs = new Runs();
        crossing(runs);
        sequencesOfLines(runs);
        whichCrosses(runs);
        credits(runs);
        leaks(runs);
        spoiling(runs);
        acks(runs);
        window(runs);
        outOfSequence(runs);
        strayed(runs);
        thirtyTicks(runs);
        noticesTaken(runs);
        wrongCalls(runs);
        runs.end();
    }

    private static void crossing(Runs runs) {
        runs.run("promise 22: a frame may cross several lines in a tick, and is taken in the next one",
            Runs.PAIR, "control 0 0 0 4 = 1; row 0 = 1>0; house 8 = 1; tick 1 = 3; row 0 =; buffer 1 4 0 = 1>0",
            "credits 1 4 0 = 1; credits 0 0 0 = 2; credits 2 0 1 = 2; house 8 = 1; ofExchange 1 9 = 0; tick 1 = 3",
            "buffer 1 4 0 =; buffer 1 0 0 = 1<0; ofExchange 1 9 = 1; ofExchange 1 10 = 0; told 0 0 = open; tick 1 = 0",
            "told 0 0 = good; ofExchange 1 10 = 1; ofExchange 1 7 = 3; house 8 = 0; house 10 = 3; house 11 = 6");
        runs.run("promise 22: one frame a line and a tick",
            ONE_SWITCH, "write 0 0 0 0 4 7 = 1; row 0 = 1>0 1>1 1>2 1>3 1>4; tick 1 = 2; row 0 = 1>1 1>2 1>3 1>4",
            "buffer 1 4 0 = 1>0; tick 1 = 2; row 0 = 1>2 1>3 1>4; buffer 1 4 0 = 1>1; tick 3 = 6; row 0 =",
            "ofExchange 1 9 = 4; tick 1 = 2; ofExchange 1 9 = 5; tick 1 = 0; told 0 0 = good; ofExchange 1 7 = 7");
        runs.run("promise 22: the answer of many ticks is what crossed in all of them",
            ONE_SWITCH, "read 0 0 0 0 4 = 1; tick 20 = 12; told 0 0 = good 0 0 0 0; ofExchange 1 7 = 7; tick 20 = 0",
            "house 10 = 40; house 11 = 12; ofExchange 1 9 = 1; ofExchange 1 10 = 5");
        runs.run("promise 22: the second sequence has the values of a read alone if it is good",
            ONE_SWITCH, "deny 0 0 true; read 0 0 0 0 4 = 1; tick 3 = 4; told 0 0 = denied; ofExchange 1 10 = 1",
            "deny 0 0 false; read 0 0 0 2 2 = 2; tick 2 = 4; row 4 = 2<1 2<2; buffer 1 0 0 = 2<0");
        runs.run("promise 22: nothing crosses without frames", "tick 20 = 0; house 10 = 20; tick 1 = 0; house 10 = 21");
    }

    private static void sequencesOfLines(Runs runs) {
        runs.run("promise 22: lines between switches by where they begin: up in one tick, down in one each",
            "link 0 1 1; link 1 2 1; attach 0 2; attach 4 0; zone 0 0 true; zone 0 4 true; login 0; login 4",
            "control 0 0 0 4 = 1; tick 1 = 2; buffer 2 2 1 = 1>0; ofSwitch 1 5 = 1; tick 1 = 2; buffer 1 4 0 = 1>0",
            "tick 1 = 4; buffer 1 0 0 = 1<0; tick 1 = 0; told 0 0 = good; ofExchange 1 7 = 4");
        runs.run("promise 22: from one switch by where they end, so that two of one buffer may cross, but not "
                + "backwards", BETWEEN_TWO,
            "control 0 0 0 4 = 1; control 0 1 1 4 = 2; tick 2 = 2; buffer 0 0 0 = 1>0 2>0; recover = 4; tick 1 = 4",
            "buffer 0 0 0 =; buffer 1 4 0 = 1>0; buffer 1 5 0 = 2>0");
        runs.run("promise 22: the same two the other way round",
            BETWEEN_TWO, "control 0 0 1 4 = 1; control 0 1 0 4 = 2; tick 2 = 2; buffer 0 0 0 = 1>0 2>0; recover = 4",
            "tick 1 = 2; buffer 0 0 0 = 2>0; buffer 1 4 0 =; buffer 1 5 0 = 1>0");
        runs.run("promise 22: first all lines from nodes, then between switches, then to nodes",
            ONE_SWITCH, "control 0 0 0 4 = 1; tick 1 = 2; control 0 1 0 4 = 2; tick 1 = 4; buffer 1 0 0 = 1<0",
            "buffer 1 4 0 = 2>0; tick 1 = 2; told 0 0 = good; told 0 1 = open; tick 1 = 0; told 0 1 = good");
    }

    private static void whichCrosses(Runs runs) {
        runs.run("promise 22: of several buffers that from the smallest node, then from the smallest switch",
            "link 0 1 1; link 0 2 1; attach 3 0; attach 1 0; attach 2 1; attach 0 2; attach 4 0; zone 0 0 true",
            "zone 0 1 true; zone 0 2 true; zone 0 3 true; zone 0 4 true; login 0; login 1; login 2; login 3; login 4",
            "control 0 0 0 4 = 1; control 2 0 0 4 = 2; control 3 0 0 4 = 3; control 1 0 0 4 = 4; tick 1 = 7",
            "buffer 1 4 0 = 4>0; buffer 0 3 0 = 3>0; buffer 2 1 0 = 2>0; buffer 2 2 0 = 1>0; tick 1",
            "buffer 1 4 0 = 3>0; tick 1; buffer 1 4 0 = 2>0; buffer 2 2 0 = 1>0; tick 1; buffer 1 4 0 = 1>0; tick 3",
            "told 0 0 = good");
        runs.run("promise 22: only the oldest of a buffer crosses, the first one of a row that may leave it",
            Runs.PAIR, "logout 5; attach 5 0; login 5 = 105; leak 2 0 1; leak 2 0 1; write 0 0 0 0 2 5 = 1",
            "control 0 1 1 4 = 2; tick 3 = 2; buffer 0 0 0 = 1>0 1>1; row 0 = 1>2 2>0; credits 0 0 0 = 0; tick 1 = 0",
            "abort 0 0 = 1; buffer 0 0 0 =; row 0 = 2>0; tick 1 = 2; buffer 1 5 0 = 2>0");
        runs.run("promise 22: the oldest of a buffer holds up what could go on to another one", Runs.PAIR,
            "logout 5; attach 5 0; login 5; leak 2 0 1; leak 2 0 1; control 0 0 0 4 = 1; control 0 1 1 4 = 2",
            "tick 4 = 2; buffer 0 0 0 = 1>0 2>0; row 0 =; buffer 1 5 0 =; recover = 2; tick 1 = 3; buffer 0 0 0 =",
            "buffer 1 4 0 = 1>0; buffer 1 5 0 = 2>0; tick 1 = 4; buffer 1 0 0 = 2<0; buffer 2 1 0 = 1<0");
    }

    private static void credits(Runs runs) {
        runs.run("promise 42: the credits of lines that are there, and none of others",
            "credits 0 0 0 = -1; credits 1 7 0 = -1; credits 2 0 1 = -1; credits 2 1 1 = -1; attach 7 3",
            "credits 0 7 99 = 2; credits 1 7 -5 = 2; link 2 3 1; credits 2 2 3 = 2; credits 2 3 2 = 2",
            "credits 2 3 3 = -1; fall 3; credits 0 7 0 = 2; credits 2 2 3 = 2; unlink 2 3; credits 2 2 3 = -1");
        runs.run("promises 42, 43 and 45: buffers fill up from their end, and without a credit nothing crosses",
            Runs.PAIR, "leak 1 4 0 = 1; leak 1 4 0 = 2; write 0 0 0 0 4 7 = 1; tick 2 = 4; buffer 2 0 1 = 1>0 1>1",
            "credits 2 0 1 = 0; credits 2 1 0 = 2; buffer 2 1 0 =; tick 2 = 2; buffer 0 0 0 = 1>2 1>3",
            "credits 0 0 0 = 0; row 0 = 1>4; tick 1 = 0; row 0 = 1>4; ofExchange 1 8 = 5; house 8 = 5",
            "ofSwitch 0 5 = 2; ofSwitch 1 5 = 2; recover = 2; tick 1 = 1; row 0 = 1>4; buffer 0 0 0 = 1>2 1>3",
            "buffer 2 0 1 = 1>1; buffer 1 4 0 = 1>0; tick 1 = 2; row 0 = 1>4; buffer 0 0 0 = 1>3; buffer 2 0 1 = 1>2",
            "buffer 1 4 0 = 1>1; credits 1 4 0 = 1; tick 1 = 3; row 0 =; buffer 0 0 0 = 1>4; buffer 2 0 1 = 1>3",
            "buffer 1 4 0 = 1>2; ofExchange 1 9 = 2");
        runs.run("promises 43 and 45: frames, and acks behind them, of both sequences", ONE_SWITCH,
            "manner 0 true false; leak 1 0 0; leak 1 0 0; read 0 0 0 0 4 = 1; tick 3 = 4; row 4 = 1<1 1<2 1<3 1<4",
            "buffer 0 4 9 = 1>0! 1<0; buffer 1 0 0 =; recover = 2; tick 2 = 3; buffer 1 0 0 = 1<0",
            "row 4 = 1<2 1<3 1<4; tick 1 = 3; buffer 1 0 0 = 1<1; buffer 1 4 0 = 1<0!; ofExchange 1 8 = 5",
            "house 8 = 5");
        runs.run("promise 43: lines that are not there have nothing in their buffer",
            "buffer 0 0 0 =; buffer 1 7 0 =; buffer 2 0 1 =; buffer 2 2 2 =; link 0 1 1; buffer 2 1 0 =");
    }

    private static void leaks(Runs runs) {
        runs.run("promises 19 and 20: credits leak, and come back",
            "leak 0 0 0 = -9; leak 2 0 1 = -9; leak 2 1 1 = -9; house 9 = 3; attach 0 0; leak 0 0 77 = 1",
            "credits 0 0 0 = 1; leak 0 0 0 = 2; credits 0 0 0 = 0; leak 0 0 0 = -9; leak 1 0 0 = 1; link 0 1 1",
            "leak 2 1 0 = 1; house 12 = 4; recover = 4; house 12 = 0; credits 0 0 0 = 2; credits 1 0 0 = 2",
            "credits 2 1 0 = 2; recover = 0; leak 0 0 0 = 1");
        runs.run("promise 19: a frame's place is no credit",
            Runs.PAIR, "leak 1 4 0; leak 1 4 0; write 0 0 0 0 1 7 = 1; tick 1; leak 2 0 1 = 1; leak 2 0 1 = -9",
            "credits 2 0 1 = 0; buffer 2 0 1 = 1>0; tick 1 = 1; buffer 0 0 0 = 1>1; leak 0 0 0 = 1; leak 0 0 0 = -9",
            "recover = 4; credits 2 0 1 = 1; tick 1 = 2; buffer 2 0 1 = 1>1; buffer 1 4 0 = 1>0; tick 1 = 1; tick 3",
            "told 0 0 = good");
        runs.run("promise 19: a leaked place stays away as its frame goes",
            ONE_SWITCH, "leak 1 4 0 = 1; write 0 0 0 0 2 7 = 1; tick 1 = 2; credits 1 4 0 = 0; tick 1 = 2",
            "credits 1 4 0 = 0; buffer 1 4 0 = 1>1; abort 0 0 = 1; credits 1 4 0 = 1; house 12 = 1");
    }

    private static void spoiling(Runs runs) {
        runs.run("promise 18: the oldest frame of a buffer is dropped, and its place is a credit again", Runs.PAIR,
            "spoil 0 0 0 = -9; spoil 2 0 1 = -9; spoil 1 7 0 = -9; spoil 2 0 2 = -9; spoil 2 3 3 = -9; house 9 = 5",
            "leak 1 4 0; leak 1 4 0; write 1 0 0 0 2 7 = 1; tick 2; buffer 2 0 1 = 1>0 1>1; spoil 2 0 1 = 1",
            "buffer 2 0 1 = 1>1; credits 2 0 1 = 1; house 8 = 2; told 1 0 = open; recover; tick 2; told 1 0 = lost",
            "ofExchange 1 9 = 0; ofExchange 1 5 = 2; ofExchange 1 7 = 4; house 8 = 0");
        runs.run("promise 18: the last frame of a sequence spoiled: the exchange goes on waiting", ONE_SWITCH,
            "control 0 0 0 4 = 1; tick 1; spoil 1 4 99 = 1; tick 10 = 0; told 0 0 = open; ofExchange 1 8 = 0; tick 18",
            "told 0 0 = open; tick 1; told 0 0 = lost; ofExchange 1 7 = 30; again 0 0 = 2; tick 3; told 0 0 = good");
        runs.run("promise 18: an ack spoiled is never taken", ONE_SWITCH,
            "manner 0 true false; write 0 0 0 0 4 7 = 1; tick 2 = 6; buffer 1 0 0 = 1>0!; spoil 1 0 0 = 1; tick 1 = 2",
            "row 0 = 1>2 1>3 1>4; buffer 1 0 0 = 1>1!; tick 1 = 2; row 0 = 1>3 1>4; ofExchange 1 12 = 1; tick 1 = 2",
            "buffer 1 0 0 = 1>2!; row 0 = 1>3 1>4; spoil 1 0 0 = 1; tick 5 = 0; row 0 = 1>3 1>4; ofExchange 1 12 = 1",
            "ofExchange 1 9 = 3; ofExchange 1 8 = 2; tick 20; told 0 0 = lost; ofExchange 1 7 = 30");
    }

    private static void acks(Runs runs) {
        runs.run("promise 22: each frame taken has an ack that goes back, the last one of the second sequence none",
            ONE_SWITCH, "manner 0 true false; write 0 0 0 0 1 5 = 1; tick 1 = 2; buffer 1 4 0 = 1>0; tick 1 = 4",
            "buffer 1 0 0 = 1>0!; buffer 1 4 0 = 1>1; ofExchange 1 12 = 0; tick 1 = 2; ofExchange 1 12 = 1",
            "row 4 = 1<0; buffer 1 0 0 = 1>1!; tick 1 = 2; ofExchange 1 12 = 2; tick 1 = 0; told 0 0 = good",
            "ofExchange 1 13 = 0; ofExchange 1 7 = 5; ofExchange 1 11 = 1; house 8 = 0");
        runs.run("promise 22: the ports take acks of the second sequence, till its last frame is taken", ONE_SWITCH,
            "manner 0 true false; read 0 0 0 0 3 = 1; tick 4; ofExchange 1 10 = 1; ofExchange 1 13 = 0; tick 1",
            "ofExchange 1 10 = 2; ofExchange 1 13 = 1; tick 1; ofExchange 1 13 = 2; buffer 1 4 0 = 1<2!; tick 1",
            "told 0 0 = good 0 0 0; ofExchange 1 12 = 1; ofExchange 1 13 = 2; ofExchange 1 10 = 4; ofExchange 1 9 = 1");
        runs.run("promise 22: an ack comes ahead of the second sequence of a command that is done at once", ONE_SWITCH,
            "manner 0 true false; leak 0 4 0; leak 0 4 0; control 0 0 0 4 = 1; tick 2; row 4 = 1>0! 1<0; recover",
            "tick 1 = 2; buffer 1 0 0 = 1>0!; tick 1; buffer 1 0 0 = 1<0; ofExchange 1 12 = 1; tick 1",
            "told 0 0 = good");
        runs.run("promise 22: one that is not acked has no acks", ONE_SWITCH,
            "manner 0 true false; manner 0 false false = 1; write 0 0 0 0 4 7 = 1; tick 20 = 12; told 0 0 = good",
            "ofExchange 1 12 = 0; ofExchange 1 13 = 0; ofExchange 1 11 = 0");
        runs.run("promise 22: an exchange that is done leaves no acks behind", ONE_SWITCH,
            "manner 0 true false; control 0 0 0 4 = 1; tick 2; spoil 1 0 0 = 1; tick 1; buffer 1 0 0 = 1<0; tick 1",
            "told 0 0 = good; house 8 = 0; ofExchange 1 12 = 0");
    }

    private static void window(Runs runs) {
        runs.run("promise 22: a frame 2 above the acks taken may not leave, those behind it of others may", ONE_SWITCH,
            "manner 0 true false; leak 1 0 0; leak 1 0 0; write 0 0 0 0 4 7 = 1; tick 2 = 5; tick 1 = 1",
            "row 0 = 1>2 1>3 1>4; buffer 0 4 0 = 1>0! 1>1!; tick 1 = 0; manner 0 false true = 1; control 0 1 0 4 = 2",
            "row 0 = 1>2 1>3 1>4 2>0; tick 1 = 2; row 0 = 1>2 1>3 1>4; recover = 2; tick 1 = 1; buffer 1 0 0 = 1>0!",
            "row 4 = 2<0; ofExchange 1 12 = 0; tick 1 = 4; ofExchange 1 12 = 1; row 0 = 1>3 1>4; buffer 1 0 0 = 1>1!",
            "buffer 0 4 0 = 2<0; tick 20; told 0 0 = good; told 0 1 = good; ofExchange 1 12 = 5",
            "values 0 = 7 8 9 10 0 0 0 0");
        runs.run("promise 22: likewise for the second sequence of a read", ONE_SWITCH,
            "manner 0 true false; leak 1 4 0; read 0 0 0 0 4 = 1; tick 1 = 2; leak 1 4 0 = -9; tick 1; leak 1 4 0 = 2",
            "tick 3; row 4 = 1<2 1<3 1<4; row 0 =; buffer 0 0 0 = 1<0! 1<1!; ofExchange 1 13 = 0; ofExchange 1 10 = 2",
            "recover = 2; tick 1 = 1; row 4 = 1<2 1<3 1<4; tick 1 = 3; row 4 = 1<3 1<4; ofExchange 1 13 = 1");
    }

    private static void outOfSequence(Runs runs) {
        runs.run("promise 22: a frame that overtakes another one by a better way makes its exchange lost",
            "link 0 1 9; link 0 2 1; link 2 1 1; attach 0 0; attach 4 1; zone 0 0 true; zone 0 4 true; login 0",
            "login 4; leak 2 2 1; leak 2 2 1; write 0 0 0 0 1 5 = 1; tick 1 = 2; buffer 2 0 2 = 1>0; link 0 1 1 = 9",
            "tick 1 = 3; buffer 1 4 0 = 1>1; buffer 2 0 2 = 1>0; tick 1 = 0; told 0 0 = lost; ofExchange 1 9 = 0",
            "ofExchange 1 7 = 3; house 8 = 0; values 0 = 0 0 0 0 0 0 0 0");
        runs.run("promise 22: likewise for the second sequence; what the command did stays", ONE_SWITCH,
            "write 0 0 0 0 1 5 = 1; tick 4; told 0 0 = good; read 0 0 0 0 2 = 2; tick 2; buffer 1 0 0 = 2<0",
            "spoil 1 0 0 = 2; tick 1; buffer 1 0 0 = 2<1; tick 1; told 0 0 = lost; ofExchange 2 10 = 0; value 0 0 = 5",
            "ofExchange 2 6 = -1; house 7 = 1");
    }

    private static void strayed(Runs runs) {
        runs.run("promise 22: a frame at a switch without a way to its node is dropped, its exchange stays open",
            "link 0 1 1; link 1 2 1; link 2 3 1; attach 0 0; attach 4 3; zone 0 0 true; zone 0 4 true; login 0",
            "login 4; leak 2 2 3; leak 2 2 3; write 0 0 0 0 1 3 = 1; tick 2 = 6; buffer 2 1 2 = 1>0 1>1; link 0 3 9",
            "unlink 2 3; unlink 0 1 = 1; buffer 2 1 2 = 1>0 1>1; told 0 0 = open; tick 1 = 0; buffer 2 1 2 =",
            "credits 2 1 2 = 2; ofExchange 1 8 = 0; told 0 0 = open; tick 20; tick 6; told 0 0 = open; tick 1",
            "told 0 0 = lost; again 0 0 = 2; tick 5; told 0 0 = good");
        runs.run("promise 22: likewise at the switch 0, and behind the line from it",
            "link 2 1 1; link 1 0 1; link 0 3 1; attach 0 2; attach 4 3; zone 0 0 true; zone 0 4 true; login 0",
            "login 4; leak 2 0 3; leak 2 0 3; control 0 0 0 4 = 1; tick 2 = 3; buffer 2 1 0 = 1>0; link 2 3 9",
            "unlink 0 3; unlink 2 1; tick 1 = 0; buffer 2 1 0 =; credits 2 1 0 = 2; told 0 0 = open; house 8 = 0");
        runs.run("promise 22: likewise of a line that begins at the switch 0",
            "link 1 0 1; link 0 2 1; link 2 3 1; attach 0 1; attach 4 3; zone 0 0 true; zone 0 4 true; login 0",
            "login 4; leak 2 2 3; leak 2 2 3; control 0 0 0 4 = 1; tick 2 = 3; buffer 2 0 2 = 1>0; link 1 3 9",
            "unlink 2 3; unlink 1 0; tick 1 = 0; buffer 2 0 2 =; credits 2 0 2 = 2; told 0 0 = open; house 8 = 0");
        runs.run("promise 22: one that has another way goes that",
            "link 0 1 1; link 1 2 1; link 2 3 1; attach 0 0; attach 4 3; zone 0 0 true; zone 0 4 true; login 0",
            "login 4; leak 2 2 3; leak 2 2 3; control 0 0 0 4 = 1; tick 1 = 3; link 0 3 9; unlink 2 3; tick 1 = 1",
            "buffer 2 2 1 = 1>0; tick 1 = 1; buffer 2 1 0 = 1>0; tick 1 = 2; buffer 1 4 0 = 1>0; tick 2",
            "told 0 0 = good");
    }

    private static void thirtyTicks(Runs runs) {
        runs.run("promise 22: what is open since thirty ticks is lost", ONE_SWITCH,
            "leak 0 0 0; leak 0 0 0; tick 3; control 0 0 0 4 = 1; tick 5; write 0 1 0 0 4 7 = 2; tick 20; tick 4",
            "told 0 0 = open; ofExchange 1 7 = 29; tick 1 = 0; told 0 0 = lost; ofExchange 1 7 = 30",
            "row 0 = 2>0 2>1 2>2 2>3 2>4; told 0 1 = open; tick 4; told 0 1 = open; tick 1; told 0 1 = lost",
            "ofExchange 2 7 = 30; house 8 = 0; house 7 = 2; tick 5; ofExchange 1 7 = 30; ofExchange 1 6 = -1");
        runs.run("promise 22: what is done in the thirtieth tick is done", ONE_SWITCH,
            "leak 0 0 0; leak 0 0 0; control 0 0 0 4 = 1; tick 20; tick 7 = 0; recover; tick 2 = 4; told 0 0 = open",
            "tick 1 = 0; told 0 0 = good; ofExchange 1 7 = 30; ofExchange 1 5 = 1");
    }

    private static void noticesTaken(Runs runs) {
        runs.run("promise 21: the first notice goes", Runs.PAIR,
            "logout 4; notices 0 = 2 5 6 -5; notice 0 = 2; notice 0 = 5; notices 0 = 6 -5; notice 0 = 6; login 4",
            "notice 0 = -5; notices 0 = 5; notice 0 = 5; notices 0 =; notice 0 = 0; notice 0 = 0; notice 7 = 0",
            "house 9 = 0");
        runs.each("promise 21: no such node", Runs.PAIR, INDEX, "notice -1", "notice 8");
    }

    private static void wrongCalls(Runs runs) {
        String[] methods = {"spoil", "leak", "credits", "buffer"};
        for (String method : methods) {
            String[] calls = new String[WRONG_LINES.length];
            for (int i = 0; i < calls.length; i++) {
                calls[i] = method + " " + WRONG_LINES[i];
            }
            runs.each("promises 18, 19, 42 and 43: no such kind of line, node or switch", Runs.PAIR, ARGUMENT, calls);
        }
        runs.each("promise 45: no such node", Runs.PAIR, INDEX, "row -1", "row 8");
        runs.each("promise 22: not 1 to 20 ticks", Runs.PAIR, ARGUMENT,
            "tick 0", "tick 21", "tick -1", "tick 2147483647", "tick -2147483648");
    }
}
