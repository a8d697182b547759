/** Section 2 and promises 18 to 22, 42, 43, 45 and 48, sentence by sentence: lines, frames, acks, ticks. */
final class EdgesOfFrames {
    /** Host 0 and port 4 at one switch. */
    private static final String ONE = "attach 0 0; attach 4 0; zone 0 0 true; zone 0 4 true; login 0; login 4;";
    /** Likewise, with acks. */
    private static final String ACKED = ONE + "manner 0 true false;";
    private static final String HOLD_PORT = "leak 1 4 0; leak 1 4 0;";
    private static final String HOLD_ANSWERS = "leak 0 4 0; leak 0 4 0;";
    /** Host 0 at the switch 0 and port 4 at the switch 3, over the switches 1 and 2, with domains of their own. */
    private static final String FAR = "link 0 1 1; link 1 2 1; link 2 3 1; attach 0 0; attach 4 3; zone 0 0 true;"
        + "zone 0 4 true; login 0; login 4;";
    /** Host 0 at the switch 1, port 4 at the switch 0, port 5 at the switch 2. */
    private static final String MIDDLE = "link 0 1 1; link 1 2 1; attach 0 1; attach 4 0; attach 5 2;"
        + "zone 0 0 true; zone 0 4 true; zone 0 5 true; login 0; login 4; login 5;";

    private EdgesOfFrames() {
    }

    static void all(Sentences s) {
        lines(s);
        buffers(s);
        exchanges(s);
        sequences(s);
        rows(s);
        acks(s);
        window(s);
        taking(s);
        strayed(s);
        crossing(s);
        sequenceOfLines(s);
        whichCrosses(s);
        thirtyTicks(s);
        takenInSequence(s);
        queuedAndDone(s);
        dropped(s);
        paths(s);
        spoilAndLeak(s);
        questions(s);
    }

    private static String by(int promise) {
        return "promise " + promise + " by section 2";
    }

    private static void lines(Sentences s) {
        s.holds(by(42), "LINES: from each NODE that is AT a SWITCH to it, and back",
            "credits 0 0 0 = -1; credits 1 0 0 = -1; attach 0 0; credits 0 0 0 = 2; credits 1 0 0 = 2; attach 7 3",
            "credits 0 7 0 = 2; credits 1 7 0 = 2; credits 0 3 0 = -1; attach 0 -1; credits 0 0 0 = -1",
            "credits 1 0 0 = -1");
        s.holds(by(42), "from each SWITCH to each other one with a LINK, and back",
            "credits 2 0 1 = -1; link 0 1 1; credits 2 0 1 = 2; credits 2 1 0 = 2; credits 2 0 2 = -1",
            "credits 2 0 0 = -1; link 3 2 9; credits 2 2 3 = 2; credits 2 3 2 = 2; unlink 2 3; credits 2 2 3 = -1",
            "credits 2 3 2 = -1");
        s.holds(by(42), "A LINE of a SWITCH that is DOWN is there, but is crossed by none.", Runs.PAIR,
            "attach 2 2; attach 6 2; fall 2; credits 0 2 0 = 2; credits 1 6 0 = 2; leak 0 2 0 = 1; link 0 2 1",
            "link 2 1 1; credits 2 0 2 = 2; leak 2 2 0 = 1; link 0 1 9; far 0 1 = 9; control 0 0 0 4; tick 1 = 3",
            "buffer 1 4 0 = 1>0; buffer 2 0 2 =; tick 2 = 3; told 0 0 = good; rise 2; link 0 1 9; attach 2 2; login 2");
        s.holds(by(42), "A LINE of a SWITCH that is DOWN is there, but is crossed by none.", Runs.PAIR,
            "link 1 2 1; link 2 0 1; leak 2 2 1; leak 2 2 1; link 0 1 9; control 0 0 0 4; tick 1 = 2",
            "buffer 2 0 2 = 1>0; link 0 1 1; fall 2; buffer 2 0 2 =; tick 1 = 0; told 0 0 = open; ofExchange 1 8 = 0");
    }

    private static void buffers(Sentences s) {
        s.holds(by(43),
            "Each LINE has at its end a BUFFER for two FRAMES, the oldest one first, and a CREDIT for each free "
                + "place", ONE, HOLD_PORT,
            "write 0 0 0 0 4 7; credits 0 0 0 = 2; tick 1 = 1; buffer 0 0 0 = 1>0; credits 0 0 0 = 1; tick 1 = 1",
            "buffer 0 0 0 = 1>0 1>1; credits 0 0 0 = 0; row 0 = 1>2 1>3 1>4; tick 1 = 0; buffer 0 0 0 = 1>0 1>1",
            "row 0 = 1>2 1>3 1>4");
        s.holds(by(43), "a BUFFER for two FRAMES, the oldest one first, and a CREDIT for each free place", Runs.PAIR,
            HOLD_PORT, "write 0 0 0 0 2 7; control 1 0 0 4; tick 1; credits 2 0 1 = 1; buffer 2 0 1 = 1>0; tick 1",
            "credits 2 0 1 = 0; buffer 2 0 1 = 1>0 1>1; buffer 0 1 0 = 2>0; credits 0 1 0 = 1; tick 5 = 1",
            "credits 2 0 1 = 0; credits 1 4 0 = 0; buffer 1 4 0 =; buffer 0 0 0 = 1>2; recover; tick 1",
            "buffer 1 4 0 = 1>0; credits 1 4 0 = 1");
        s.holds(by(43), "(one that comes has its BUFFER empty)", Runs.PAIR, "link 0 2 9; link 2 1 9;" + HOLD_PORT,
            "write 0 0 0 0 4 7; leak 2 1 0; tick 2; credits 2 0 1 = 0; unlink 0 1; link 0 1 2; buffer 2 0 1 =",
            "credits 2 0 1 = 2; credits 2 1 0 = 2; told 0 0 = open; row 0 = 1>2 1>3 1>4");
    }

    private static void exchanges(Sentences s) {
        s.holds(by(11), "An EXCHANGE (numbered from 1) is of a HOST with a PORT", ONE,
            "house 4 = 0; read 0 3 0 0 1 = 1; write 0 0 0 0 1 0 = 2; control 0 1 0 4 = 3; house 4 = 3",
            "ofExchange 1 0 = 0; ofExchange 1 1 = 4; ofExchange 1 2 = 3; ofExchange 3 2 = 1");
        s.holds(by(11), "it has a TAG (0 to 3; of a HOST no two that are OPEN have one TAG)", Runs.PAIR,
            "control 0 0 0 4 = 1; control 0 1 0 4 = 2; control 0 2 0 4 = 3; control 0 3 0 4 = 4; control 0 0 0 4 = -9",
            "control 0 3 1 4 = -9; control 1 3 0 4 = 5; abort 0 3; control 0 3 0 4 = 6; tick 2; read 0 0 0 0 1 = -9",
            "tick 3; told 0 0 = good; read 0 0 0 0 1 = 7; again 0 0 = -9");
        s.holds(by(16), "is ACKED or not, URGENT or not (as its HOST was set as it began; neither at first)", Runs.PAIR,
            "control 0 0 0 4 = 1; ofExchange 1 11 = 0; manner 0 true false = 0; ofExchange 1 11 = 0",
            "control 0 1 0 4 = 2; manner 0 false true = 1; control 0 2 0 4 = 3; manner 0 true true = 2",
            "control 0 3 0 4 = 4; manner 0 false false = 3; ofExchange 2 11 = 1; ofExchange 3 11 = 2",
            "ofExchange 4 11 = 3; control 1 0 0 4 = 5; ofExchange 5 11 = 0; tick 9; ofExchange 1 12 = 0",
            "ofExchange 2 12 = 1; ofExchange 3 12 = 0; ofExchange 4 12 = 1; manner 1 false false = 0");
        s.holds(by(48), "and is OPEN, DONE with a STATUS, or LOST", ONE,
            "control 0 0 0 4 = 1; ofExchange 1 5 = 0; ofExchange 1 6 = -1; tick 3; ofExchange 1 5 = 1",
            "ofExchange 1 6 = 0; control 0 0 0 4 = 2; tick 2; ofExchange 2 6 = -1; abort 0 0; ofExchange 2 5 = 2",
            "ofExchange 2 6 = -1");
    }

    private static void sequences(Sentences s) {
        s.holds(by(45), "a FRAME with the COMMAND, then with a WRITE one for each BLOCK", ONE,
            "write 0 0 0 7 1 0; write 0 1 0 4 4 999; read 0 2 0 4 4; control 0 3 0 6",
            "row 0 = 1>0 1>1 2>0 2>1 2>2 2>3 2>4 3>0 4>0");
        s.holds(by(45),
            "its second one back: with a READ and the STATUS 0 one for each BLOCK, then one with the STATUS", ONE,
            HOLD_ANSWERS, "read 0 0 0 7 1; read 0 1 0 4 4; control 0 2 0 4; write 0 3 0 0 2 5; tick 8; queue 0 =",
            "row 4 = 1<0 1<1 2<0 2<1 2<2 2<3 2<4 3<0 4<0");
        s.holds(by(45), "with a READ and the STATUS 0 one for each BLOCK", ONE, "copy 0 0; revert 0 0;" + HOLD_ANSWERS,
            "read 0 0 0 0 4; tick 2; row 4 = 1<0; deny 0 0 true; read 0 1 0 0 4; tick 2; row 4 = 1<0 2<0",
            "deny 0 0 false; read 0 2 0 0 4; tick 2; row 4 = 1<0 2<0 3<0 3<1 3<2 3<3 3<4; recover; tick 20",
            "told 0 0 = check; told 0 1 = denied; told 0 2 = good 0 0 0 0; ofExchange 1 10 = 1; ofExchange 2 10 = 1",
            "ofExchange 3 10 = 5");
        s.holds(by(45), "FRAMES of a SEQUENCE are numbered from 0.", ONE,
            "write 0 0 0 0 1 5; row 0 = 1>0 1>1; tick 3; row 0 =; buffer 1 4 0 =; buffer 1 0 0 = 1<0",
            "ofExchange 1 9 = 2");
    }

    private static void rows(Sentences s) {
        s.holds(by(45), "They wait in the NODE's own row (without bound), in the sequence in which they came there.",
            ONE, HOLD_PORT,
            "write 0 3 0 0 4 7; write 0 1 0 0 4 7; write 0 0 0 0 4 7; write 0 2 0 0 4 7; ofExchange 1 8 = 5",
            "house 8 = 20; row 0 = 1>0 1>1 1>2 1>3 1>4 2>0 2>1 2>2 2>3 2>4 3>0 3>1 3>2 3>3 3>4 4>0 4>1 4>2 4>3 4>4",
            "tick 3 = 2; row 0 = 1>2 1>3 1>4 2>0 2>1 2>2 2>3 2>4 3>0 3>1 3>2 3>3 3>4 4>0 4>1 4>2 4>3 4>4");
        s.holds("promise 45", "Returns its row, likewise.", ACKED,
            "row 0 =; row 4 =; row 7 =; write 0 0 0 0 1 7; row 0 = 1>0 1>1;" + HOLD_ANSWERS,
            "tick 3; row 4 = 1>0! 1>1! 1<0; row 0 =");
    }

    private static void acks(Sentences s) {
        s.holds(by(22),
            "as a FRAME of a SEQUENCE is TAKEN, an ACK with its number (told by the SEQUENCE of that FRAME) "
                + "comes behind the row" + " of the NODE that TOOK it", ONE, "control 0 1 0 4;" + HOLD_ANSWERS,
            "manner 0 true false; write 0 0 0 0 1 7; tick 2; row 4 = 1<0; tick 1; row 4 = 1<0 2>0!; tick 1",
            "row 4 = 1<0 2>0! 2>1! 2<0; ofExchange 2 8 = 3; house 8 = 4");
        s.holds(by(22), "an ACK with its number (told by the SEQUENCE of that FRAME)", ACKED,
            "read 0 0 0 0 2; tick 2; buffer 1 0 0 = 1>0!; buffer 0 4 0 =; tick 2; buffer 1 4 0 = 1<0!",
            "buffer 1 0 0 = 1<1; ofExchange 1 12 = 1; ofExchange 1 13 = 0; ofExchange 1 10 = 1; tick 1",
            "ofExchange 1 13 = 1; ofExchange 1 10 = 2");
        s.holds(by(22), "and goes back as FRAMES do", "manner 0 true false;" + Runs.PAIR,
            "leak 2 1 0; leak 2 1 0; control 0 0 0 4; tick 2; buffer 0 4 0 = 1>0!; row 4 = 1<0; tick 1",
            "buffer 0 4 0 = 1>0! 1<0; credits 0 4 0 = 0; ofSwitch 1 5 = 2; house 11 = 5; recover; tick 1 = 2",
            "buffer 1 0 0 = 1>0!; house 11 = 7; spoil 1 0 0 = 1; tick 2; told 0 0 = good; ofExchange 1 12 = 0");
        s.holds(by(22), "(ACKS have no ACKS, and wait for none", ACKED, HOLD_ANSWERS,
            "write 0 0 0 0 1 7; tick 3; row 4 = 1>0! 1>1! 1<0; recover; tick 2; ofExchange 1 12 = 1; row 0 =; tick 1",
            "ofExchange 1 12 = 2; row 0 =; ofExchange 1 13 = 0; tick 1 = 0; told 0 0 = good; house 8 = 0");
        s.holds(by(22), "and wait for none", ACKED,
            "write 0 0 0 0 4 7; tick 4; buffer 1 0 0 = 1>2!; tick 2; buffer 1 0 0 = 1>4!; ofExchange 1 13 = 0; tick 2",
            "told 0 0 = good; ofExchange 1 12 = 5; house 11 = 22");
        s.holds(by(22), "with FRAMES in rows and in BUFFERS ACKS are meant, too", ACKED, HOLD_ANSWERS,
            "control 0 0 0 4; tick 2; house 8 = 2; ofExchange 1 8 = 2; row 4 = 1>0! 1<0; recover; tick 1; house 8 = 2",
            "tick 1; house 8 = 1");
        s.holds(by(22), "If it is ACKED", ONE,
            "write 0 0 0 0 4 7; tick 2; row 4 =; buffer 1 0 0 =; tick 20; told 0 0 = good; ofExchange 1 12 = 0",
            "house 11 = 12");
    }

    private static void window(Sentences s) {
        String rule = "a FRAME whose number is 2 above how many ACKS the NODE which sends it TOOK of this SEQUENCE, or "
                + "more, may not leave" + " the row yet.";
        s.holds(by(22), rule, ACKED,
            "leak 1 0 0; leak 1 0 0; write 0 0 0 0 4 7; tick 1 = 2; row 0 = 1>1 1>2 1>3 1>4; tick 1",
            "row 0 = 1>2 1>3 1>4; tick 5; row 0 = 1>2 1>3 1>4; ofExchange 1 12 = 0; ofExchange 1 9 = 2",
            "credits 0 0 0 = 2; recover; tick 1; row 0 = 1>2 1>3 1>4; tick 1; ofExchange 1 12 = 1; row 0 = 1>3 1>4",
            "leak 1 0 0; tick 1; ofExchange 1 12 = 2; row 0 = 1>4");
        s.holds(by(22), rule, ACKED,
            "leak 1 0 0; leak 1 0 0; write 0 0 0 0 1 7; write 0 1 0 0 2 7; tick 5; row 0 = 2>2; ofExchange 2 9 = 2",
            "ofExchange 1 9 = 2; ofExchange 1 12 = 0; buffer 0 4 0 = 1>0! 1>1!; row 4 = 1<0 2>0! 2>1!; recover",
            "tick 20; told 0 1 = good");
        s.holds(by(22), rule, ACKED,
            "read 0 0 0 0 4; tick 3; leak 0 0 0; leak 0 0 0; tick 2; row 4 = 1<2 1<3 1<4; tick 1 = 0",
            "row 0 = 1<0! 1<1!; row 4 = 1<2 1<3 1<4; ofExchange 1 13 = 0; recover; tick 1; row 4 = 1<2 1<3 1<4",
            "tick 1; ofExchange 1 13 = 1; row 4 = 1<3 1<4; tick 5; told 0 0 = good 0 0 0 0; ofExchange 1 13 = 3");
        s.holds(by(22), "the NODE which sends it TOOK of this SEQUENCE", ACKED,
            "control 0 1 0 4; control 0 2 0 4; tick 6; ofExchange 1 12 = 1; ofExchange 2 12 = 1; leak 1 0 0",
            "leak 1 0 0; write 0 0 0 0 4 7; tick 9; row 0 = 3>2 3>3 3>4; ofExchange 3 12 = 0");
    }

    private static void taking(Sentences s) {
        s.holds(by(22), "A TICK: (a) NODE by NODE: the oldest FRAME of the BUFFER at the NODE is TAKEN", Runs.PAIR,
            "control 0 0 0 4; control 1 0 1 4; tick 1; buffer 1 4 0 = 1>0; buffer 1 5 0 =; tick 1; ofExchange 1 9 = 1",
            "ofExchange 2 9 = 0; buffer 1 4 0 =; buffer 1 0 0 = 1<0; tick 1; told 0 0 = good; ofExchange 2 9 = 1");
        s.holds(by(22), "the oldest FRAME of the BUFFER at the NODE is TAKEN", ONE,
            "write 0 0 0 0 4 7; tick 1; ofExchange 1 9 = 0; tick 1; ofExchange 1 9 = 1; tick 3; ofExchange 1 9 = 4",
            "tick 1; ofExchange 1 9 = 5; ofExchange 1 10 = 0; tick 1; ofExchange 1 10 = 1; told 0 0 = good");
        s.holds(by(22), "then CONTROLLER by CONTROLLER the first COMMAND of its QUEUE (also one that came into it just "
                + "then) is DONE", Runs.BOTH_PORTS,
            "control 0 0 0 2; control 1 0 0 2; control 1 1 0 3; tick 2; ofVolume 0 0 = 0; queue 0 = 2; row 6 =",
            "tick 1; queue 0 = 3; told 0 0 = good; tick 1; queue 0 =; told 1 0 = conflict; tick 1; told 1 1 = good");
        s.holds(by(22), "CONTROLLER by CONTROLLER the first COMMAND of its QUEUE",
            "attach 0 0; attach 1 0; attach 4 0; attach 5 0; zone 0 0 true; zone 0 1 true; zone 0 4 true",
            "zone 0 5 true; login 0; login 1; login 4; login 5; control 0 0 1 2; control 1 0 0 2; tick 2",
            "ofVolume 0 0 = 1; ofVolume 1 0 = 0; queue 0 =; queue 1 =");
    }

    private static void strayed(Sentences s) {
        String rule = "(b) FRAMES in BUFFERS at SWITCHES, if the NODE to which they go is at another SWITCH to which "
                + "there is no WAY, are DROPPED";
        s.holds(by(22), rule, FAR,
            "leak 2 2 3; leak 2 2 3; write 0 0 0 0 4 7; tick 3; buffer 2 1 2 = 1>0 1>1; buffer 2 0 1 = 1>2",
            "row 0 = 1>3 1>4; link 0 3 9; unlink 2 3; unlink 0 1; buffer 2 1 2 = 1>0 1>1; buffer 2 0 1 =; tick 1 = 3",
            "buffer 2 1 2 =; buffer 1 4 0 = 1>3; credits 2 1 2 = 2; told 0 0 = open; ofExchange 1 8 = 2; tick 1",
            "told 0 0 = lost");
        s.holds(by(22), rule + "; (c) LINE by LINE", FAR,
            "attach 1 1; attach 6 2; zone 1 1 true; zone 1 6 true; login 1; login 6; leak 2 2 3; leak 2 2 3",
            "write 0 0 0 0 4 7; tick 3; link 0 3 9; unlink 2 3; unlink 0 1; control 1 0 0 4; credits 2 1 2 = 0",
            "tick 1 = 6; buffer 1 6 0 = 2>0; credits 2 1 2 = 2");
        s.holds(by(22), rule, FAR,
            "leak 2 2 3; leak 2 2 3; control 0 0 0 4; tick 1; buffer 2 1 2 = 1>0; link 0 3 9; unlink 2 3; tick 1 = 1",
            "buffer 2 2 1 = 1>0; tick 1 = 1; buffer 2 1 0 = 1>0; told 0 0 = open; tick 3; told 0 0 = good");
        s.holds(by(22), "FRAMES in BUFFERS at SWITCHES", "link 2 1 1; link 1 0 1; link 0 3 1; attach 0 2; attach 4 3",
            "zone 0 0 true; zone 0 4 true; login 0; login 4; leak 2 0 3; leak 2 0 3; control 0 0 0 4; tick 2 = 3",
            "buffer 2 1 0 = 1>0; link 2 3 9; unlink 0 3; unlink 2 1; buffer 2 1 0 = 1>0; tick 1 = 0; buffer 2 1 0 =",
            "credits 2 1 0 = 2; told 0 0 = open; house 8 = 0");
        s.holds(by(22), "FRAMES in BUFFERS at SWITCHES", "link 1 0 1; link 0 2 1; link 2 3 1; attach 0 1; attach 4 3",
            "zone 0 0 true; zone 0 4 true; login 0; login 4; leak 2 2 3; leak 2 2 3; control 0 0 0 4; tick 2 = 3",
            "buffer 2 0 2 = 1>0; link 1 3 9; unlink 2 3; unlink 1 0; buffer 2 0 2 = 1>0; tick 1 = 0; buffer 2 0 2 =",
            "credits 2 0 2 = 2; told 0 0 = open; house 8 = 0");
        s.holds(by(22), "is at another SWITCH to which there is no WAY", FAR, HOLD_PORT,
            "control 0 0 0 4; tick 1; buffer 2 2 3 = 1>0; link 0 3 9; unlink 2 3; buffer 2 2 3 =; ofExchange 1 8 = 0",
            "control 0 1 0 4; tick 1; buffer 2 0 3 = 2>0; tick 2 = 0; buffer 2 0 3 = 2>0; recover; tick 3",
            "told 0 1 = good");
    }

    private static void crossing(Sentences s) {
        s.holds(by(22), "as it stands then (so one FRAME may cross several LINES in one TICK)", FAR,
            "control 0 0 0 4; tick 1 = 5; buffer 1 4 0 = 1>0; tick 1 = 2; buffer 2 3 2 = 1<0; tick 1 = 1; tick 1 = 2",
            "buffer 1 0 0 = 1<0; told 0 0 = open; tick 1 = 0; told 0 0 = good; house 11 = 10");
        s.holds(by(22), "one FRAME crosses, if there is one for it and a CREDIT", Runs.PAIR,
            "write 0 0 0 0 4 7; tick 1 = 3; row 0 = 1>1 1>2 1>3 1>4; leak 2 0 1; leak 2 0 1; tick 1 = 1",
            "buffer 0 0 0 = 1>1; tick 1 = 1; buffer 0 0 0 = 1>1 1>2; tick 1 = 0; recover = 2; tick 1 = 2",
            "buffer 0 0 0 = 1>2; buffer 1 4 0 = 1>1; row 0 = 1>3 1>4");
        s.holds(by(22), "and a CREDIT", ONE,
            "leak 1 4 0; control 0 0 0 4; control 0 1 0 4; tick 1; buffer 1 4 0 = 1>0; credits 1 4 0 = 0; tick 1",
            "buffer 1 4 0 = 2>0; leak 0 0 0; leak 0 0 0; control 0 2 0 4; tick 1; row 0 = 3>0; recover = 3; tick 1",
            "buffer 1 4 0 = 3>0");
    }

    private static void sequenceOfLines(Sentences s) {
        s.holds(by(22), "first the LINES from NODES, NODE by NODE (the first one of its row that may leave it)", ACKED,
            "leak 1 0 0; leak 1 0 0; write 0 0 0 0 4 7; manner 0 false false; control 0 1 0 4; control 0 2 0 4",
            "tick 2; row 0 = 1>2 1>3 1>4 2>0 3>0; tick 1; row 0 = 1>2 1>3 1>4 3>0; buffer 1 4 0 = 2>0; tick 1",
            "row 0 = 1>2 1>3 1>4; buffer 1 4 0 = 3>0");
        s.holds(by(22), "then those between SWITCHES, by where they begin",
            "link 0 1 1; link 1 2 1; attach 0 2; attach 4 0; zone 0 0 true; zone 0 4 true; login 0; login 4",
            "control 0 0 0 4; tick 1 = 2; buffer 2 2 1 = 1>0; tick 1 = 2; buffer 1 4 0 = 1>0; tick 1 = 4",
            "buffer 1 0 0 = 1<0");
        s.holds(by(22), "then by where they end", MIDDLE,
            "leak 2 1 0; leak 2 1 0; leak 2 1 2; leak 2 1 2; control 0 0 0 4; control 0 1 1 4; tick 2",
            "buffer 0 0 0 = 1>0 2>0; recover; tick 1 = 4; buffer 1 4 0 = 1>0; buffer 1 5 0 = 2>0");
        s.holds(by(22), "then by where they end", MIDDLE,
            "leak 2 1 0; leak 2 1 0; leak 2 1 2; leak 2 1 2; control 0 0 1 4; control 0 1 0 4; tick 2",
            "buffer 0 0 0 = 1>0 2>0; recover; tick 1 = 2; buffer 0 0 0 = 2>0; buffer 1 5 0 = 1>0; buffer 2 1 0 =");
        s.holds(by(22), "then those to NODES, NODE by NODE",
            "attach 0 0; attach 4 0; attach 5 0; zone 0 0 true; zone 0 4 true; zone 0 5 true; login 0; login 4",
            "login 5; leak 1 4 0; leak 1 4 0; leak 1 5 0; leak 1 5 0; control 0 0 0 4; control 0 1 1 4; tick 2",
            "buffer 0 0 0 = 1>0 2>0; recover; tick 1 = 2; buffer 1 4 0 = 1>0; buffer 1 5 0 = 2>0; buffer 0 0 0 =");
        s.holds(by(22), "then those to NODES, NODE by NODE",
            "attach 0 0; attach 4 0; attach 5 0; zone 0 0 true; zone 0 4 true; zone 0 5 true; login 0; login 4",
            "login 5; leak 1 4 0; leak 1 4 0; leak 1 5 0; leak 1 5 0; control 0 0 1 4; control 0 1 0 4; tick 2",
            "buffer 0 0 0 = 1>0 2>0; recover; tick 1 = 1; buffer 1 4 0 =; buffer 1 5 0 = 1>0; buffer 0 0 0 = 2>0");
    }

    private static void whichCrosses(Sentences s) {
        s.holds(by(22),
            "From a SWITCH that crosses which is the oldest of its BUFFER and whose next step is this LINE (to "
                + "its NODE, if that is" + " AT this SWITCH; otherwise by the WAY)", MIDDLE,
            "attach 6 1; zone 0 6 true; login 6; control 0 0 0 4; crash 0; restart 0; login 6; leak 2 1 2; leak 2 1 2",
            "control 0 0 1 4; control 0 1 0 4; tick 3 = 2; buffer 0 0 0 = 2>0 3>0; buffer 1 6 0 =; recover",
            "tick 1 = 3; buffer 1 5 0 = 2>0; buffer 1 6 0 = 3>0; tick 3; told 0 0 = good; told 0 1 = good");
        s.holds(by(22), "which is the oldest of its BUFFER and whose next step is this LINE", Runs.PAIR,
            "leak 2 0 1; leak 2 0 1; logout 5; attach 5 0; login 5; control 0 0 0 4; control 0 1 1 4; tick 4 = 2",
            "buffer 0 0 0 = 1>0 2>0; buffer 1 5 0 =; credits 1 5 0 = 2; spoil 0 0 0 = 1; tick 1 = 1",
            "buffer 1 5 0 = 2>0");
        s.holds(by(22), "of several BUFFERS that of the LINE from the smallest NODE, then from the smallest SWITCH.",
            "link 0 1 1; link 0 2 1; attach 3 0; attach 1 0; attach 2 1; attach 0 2; attach 4 0; zone 0 0 true",
            "zone 0 1 true", "zone 0 2 true; zone 0 3 true; zone 0 4 true; login 0; login 1; login 2; login 3; login 4;"
                + HOLD_PORT,
            "control 0 0 0 4; control 2 0 0 4; control 3 0 0 4; control 1 0 0 4; tick 2; buffer 0 1 0 = 4>0",
            "buffer 0 3 0 = 3>0; buffer 2 1 0 = 2>0; buffer 2 2 0 = 1>0; recover; tick 1; buffer 1 4 0 = 4>0; tick 1",
            "buffer 1 4 0 = 3>0; tick 1; buffer 1 4 0 = 2>0; tick 1; buffer 1 4 0 = 1>0");
    }

    private static void thirtyTicks(Sentences s) {
        String rule =
            "(d) EXCHANGES that are OPEN since 30 TICKS (the next one behind their beginning is the first; this "
                + "one counted) are" + " LOST, by numbers.";
        s.holds(by(22), rule, ONE,
            "leak 0 0 0; leak 0 0 0; control 0 0 0 4; tick 20; tick 9; told 0 0 = open; ofExchange 1 7 = 29",
            "row 0 = 1>0; tick 1; told 0 0 = lost; ofExchange 1 7 = 30; row 0 =; tick 1; ofExchange 1 7 = 30");
        s.holds(by(22), rule, ONE,
            "leak 0 0 0; leak 0 0 0; tick 7; control 0 0 0 4; tick 1; write 0 1 0 0 4 7; read 0 2 0 0 4; tick 20",
            "tick 8; told 0 0 = open; tick 1; told 0 0 = lost; told 0 1 = open; ofExchange 2 7 = 29; tick 1",
            "told 0 1 = lost; told 0 2 = lost; house 7 = 3; house 8 = 0; house 10 = 38");
        s.holds(by(22), "OPEN since 30 TICKS", ONE,
            "leak 0 0 0; leak 0 0 0; control 0 0 0 4; tick 20; tick 7; recover; tick 3; told 0 0 = good",
            "ofExchange 1 7 = 30; ofExchange 1 5 = 1");
        s.holds(by(22), "OPEN since 30 TICKS", ONE,
            "leak 0 0 0; leak 0 0 0; write 0 0 0 0 1 5; tick 20; tick 7; recover; tick 3; told 0 0 = lost",
            "value 0 0 = 5; ofExchange 1 7 = 30; buffer 1 0 0 =; credits 1 0 0 = 2; ofExchange 1 6 = -1");
    }

    private static void takenInSequence(Sentences s) {
        String rule = "As a FRAME is TAKEN (no ACK): if its number is not the next one of its SEQUENCE there, its "
                + "EXCHANGE is LOST (it does not" + " count as TAKEN).";
        s.holds(by(22), rule, ONE,
            "write 0 0 0 0 2 7; tick 1; spoil 1 4 0 = 1; tick 1; buffer 1 4 0 = 1>1; told 0 0 = open; tick 1",
            "told 0 0 = lost; ofExchange 1 9 = 0; ofExchange 1 7 = 3; house 8 = 0; value 0 0 = 0");
        s.holds(by(22), rule, ONE,
            "write 0 0 0 0 4 7; tick 2; spoil 1 4 0 = 1; tick 2; told 0 0 = lost; ofExchange 1 9 = 1; tick 5");
        s.holds(by(22), rule, ONE,
            "read 0 0 0 0 4; tick 3; spoil 1 0 0 = 1; tick 1; told 0 0 = open; tick 1; told 0 0 = lost",
            "ofExchange 1 10 = 1; ofExchange 1 9 = 1");
        s.holds(by(22), "As a FRAME is TAKEN (no ACK)", ACKED,
            "write 0 0 0 0 2 7; tick 2; spoil 1 0 0 = 1; tick 2; told 0 0 = open; ofExchange 1 12 = 1; tick 1",
            "buffer 1 0 0 = 1>2!; tick 1; told 0 0 = open; ofExchange 1 12 = 2; tick 1; told 0 0 = good");
    }

    private static void queuedAndDone(Sentences s) {
        s.holds(by(22),
            "With the last one of the first SEQUENCE (behind its ACK) the COMMAND comes into the QUEUE of the "
                + "PORT's CONTROLLER", Runs.BOTH_PORTS,
            "manner 1 true false; control 0 0 0 4; write 1 0 0 0 1 5; control 0 1 0 4; leak 0 6 0; leak 0 6 0; tick 2",
            "queue 0 =; ofExchange 2 9 = 1; row 6 = 2>0!; tick 1; queue 0 = 2; row 6 = 2>0! 2>1!; queue 1 =",
            "value 0 0 = 0; tick 1; row 6 = 2>0! 2>1! 2<0; queue 0 =; value 0 0 = 5");
        s.holds(by(22), "With the last one of the first SEQUENCE (behind its ACK)", Runs.BOTH_PORTS,
            "manner 1 true false; control 0 0 0 4; control 0 1 0 4; control 0 2 0 4; control 1 0 0 4; control 1 1 0 4",
            "control 1 2 0 4; tick 3; leak 0 6 0; leak 0 6 0; queue 0 = 2 5; tick 1; queue 0 = 5 3",
            "row 6 = 4<0 6>0! 6<0");
        s.holds(by(22), "as it is DONE, the second SEQUENCE comes behind the PORT's row", ONE, HOLD_ANSWERS,
            "read 0 0 0 0 1; control 0 1 0 4; tick 2; row 4 = 1<0 1<1; tick 1; row 4 = 1<0 1<1 2<0",
            "ofExchange 2 8 = 1");
        s.holds(by(22), "With the last one of the second SEQUENCE the EXCHANGE is DONE (that has no ACK).", ACKED,
            "read 0 0 0 0 1; tick 3; told 0 0 = open; ofExchange 1 10 = 0; tick 1; ofExchange 1 10 = 1",
            "told 0 0 = open; ofExchange 1 8 = 2; buffer 1 0 0 = 1<1; buffer 1 4 0 = 1<0!; tick 1; told 0 0 = good 0",
            "ofExchange 1 10 = 2; house 8 = 0; ofExchange 1 7 = 5; ofExchange 1 13 = 0; row 0 =");
    }

    private static void dropped(Sentences s) {
        String rule = "As an EXCHANGE is LOST or DONE, all its FRAMES and ACKS are DROPPED, wherever they are";
        s.holds(by(22), rule, Runs.PAIR,
            "manner 0 true false; write 0 0 0 0 4 7; control 0 1 0 4; tick 3; row 0 = 1>3 1>4 2>0; buffer 1 4 0 = 1>2",
            "buffer 1 0 0 = 1>1!; buffer 2 1 0 =; house 8 = 5; abort 0 0 = 1; row 0 = 2>0; buffer 1 4 0 =",
            "buffer 1 0 0 =; house 8 = 1; credits 1 4 0 = 2; credits 1 0 0 = 2; tick 6; told 0 1 = good");
        s.holds(by(22), rule, ACKED, HOLD_ANSWERS,
            "control 0 0 0 4; tick 2; row 4 = 1>0! 1<0; spoil 0 4 0 = -9; recover; tick 1; buffer 1 0 0 = 1>0!",
            "leak 1 0 0; spoil 1 0 0 = 1; tick 2; told 0 0 = good; house 8 = 0; ofExchange 1 12 = 0");
        s.holds(by(22), rule, Runs.PAIR, HOLD_PORT,
            "leak 2 0 1; leak 2 0 1; write 0 0 0 0 4 7; control 1 0 0 4; tick 3; buffer 0 0 0 = 1>0 1>1",
            "row 0 = 1>2 1>3 1>4",
            "abort 0 0; buffer 0 0 0 =; credits 0 0 0 = 2; row 0 =; house 8 = 1; buffer 0 1 0 = 2>0");
        s.holds(by(22), "and its COMMAND goes out of the QUEUE", Runs.BOTH_PORTS,
            "control 0 0 0 2; control 1 0 0 2; control 1 1 0 2; tick 3; queue 0 = 3; house 13 = 1; abort 1 1 = 3",
            "queue 0 =; house 13 = 0; control 0 0 0 3; tick 3; ofVolume 0 0 = -1; tick 9; ofVolume 0 0 = -1",
            "told 1 1 = lost");
        s.holds(by(22), "(what it did already stays)", ONE,
            "write 0 0 0 0 4 7; tick 6; told 0 0 = open; abort 0 0 = 1; told 0 0 = lost; values 0 = 7 8 9 10 0 0 0 0",
            "control 0 0 0 2; tick 2; logout 0 = 1; ofVolume 0 0 = 0; cache 0 = 0.0=7 0.1=8 0.2=9 0.3=10");
        s.holds(by(4), "If a SWITCH falls, the FRAMES in the BUFFERS of all LINES from it and to it are DROPPED", FAR,
            "leak 2 2 3; leak 2 2 3; write 0 0 0 0 4 7; tick 3; buffer 2 1 2 = 1>0 1>1; buffer 2 0 1 = 1>2",
            "link 0 3 9; fall 1; buffer 2 1 2 =; buffer 2 0 1 =; credits 2 1 2 = 2; credits 2 0 1 = 2",
            "row 0 = 1>3 1>4; told 0 0 = open; ofExchange 1 8 = 2");
        s.holds(by(4), "of all LINES from it and to it are DROPPED", FAR,
            "leak 2 0 1; leak 2 0 1; control 0 0 0 4; tick 1; buffer 0 0 0 = 1>0; link 0 3 9; fall 1; fall 2",
            "buffer 0 0 0 = 1>0; tick 1 = 2; buffer 1 4 0 = 1>0; rise 1; fall 1; buffer 1 4 0 = 1>0; tick 2",
            "told 0 0 = good");
        s.holds(by(4), "of all LINES from it and to it are DROPPED", FAR,
            "leak 2 2 3; leak 2 2 3; write 0 0 0 0 4 7; tick 3; link 0 3 9; fall 2; buffer 2 1 2 =",
            "buffer 2 0 1 = 1>2; house 8 = 3; rise 2; buffer 2 1 2 =; credits 2 2 3 = 0; house 12 = 2; tick 1",
            "buffer 2 0 1 = 1>3; buffer 2 1 2 = 1>2");
        s.holds(by(3), "if a LINK goes, those of its two LINES", FAR,
            "manner 0 true false; leak 1 0 0; leak 1 0 0; write 0 0 0 0 4 7; tick 5; link 0 2 9; link 1 3 9",
            "buffer 2 1 0 = 1>0! 1>1!; row 0 = 1>2 1>3 1>4; unlink 0 1; buffer 2 1 0 =; told 0 0 = open",
            "ofExchange 1 8 = 3; link 0 1 1; credits 2 1 0 = 2");
        s.holds(by(3), "if a LINK goes, those of its two LINES", FAR,
            "leak 2 2 3; leak 2 2 3; write 0 0 0 0 4 7; tick 3; link 0 3 9; link 0 2 9; unlink 1 2; buffer 2 1 2 =",
            "buffer 2 0 1 = 1>2; ofExchange 1 8 = 3; told 0 0 = open; tick 1 = 4; buffer 2 1 0 = 1>2",
            "buffer 1 4 0 = 1>3");
    }

    private static void paths(Sentences s) {
        s.holds(by(41),
            "PATH of a HOST to a VOLUME: of the PORTS that it SEES that of the VOLUME's own CONTROLLER (VOLUME "
                + "modulo 2) with the" + " smallest number; without one the smallest one of the other CONTROLLER.",
            "attach 3 0; attach 4 0; attach 5 0; attach 6 0; attach 7 0; zone 0 3 true; zone 0 4 true; zone 0 5 true",
            "zone 0 6 true; zone 0 7 true; login 3; path 3 0 = -1; login 7; path 3 0 = 7; path 3 3 = 7; login 5",
            "path 3 0 = 5; path 3 1 = 5; path 3 2 = 5; path 3 3 = 5; login 6; path 3 0 = 6; path 3 2 = 6",
            "path 3 1 = 5; login 4; path 3 0 = 4; path 3 2 = 4; path 3 3 = 5; logout 5; path 3 1 = 7; logout 7",
            "path 3 1 = 4; zone 0 4 false; path 3 3 = 6; path 0 0 = -1");
    }

    private static void spoilAndLeak(Sentences s) {
        s.holds("promise 18", "Returns the number of its EXCHANGE", Runs.PAIR, HOLD_PORT,
            "control 1 3 0 4; control 0 0 0 4; manner 0 true false; control 0 1 1 4; tick 2; buffer 2 0 1 = 2>0 3>0",
            "spoil 2 0 1 = 2; buffer 2 0 1 = 3>0; credits 2 0 1 = 1; tick 2; buffer 2 0 1 = 1>0; spoil 2 0 1 = 1",
            "credits 2 0 1 = 2; buffer 1 0 0 = 3>0!; spoil 1 0 -5 = 3; credits 1 0 0 = 2; told 0 0 = open",
            "told 0 1 = open; told 1 3 = open");
        s.refused("promise 18", "-9 if there is none, or no such LINE.", Runs.PAIR
                + "; link 2 3 1; copy 0 0; write 0 0 0 0 4 50; tick 9; leak 1 5 0;"
                + "leak 2 3 2; control 0 0 0 4; tick 1", "spoil 0 0 0", "spoil 1 0 0", "spoil 2 0 1", "spoil 2 1 0",
            "spoil 2 2 3", "spoil 0 7 0", "spoil 1 2 9", "spoil 2 0 2", "spoil 2 1 1");
        s.holds("promise 19", "Returns how many of it are LEAKED then (they are gone with a LINE that goes)", Runs.PAIR,
            "leak 2 0 1 = 1; leak 2 1 0 = 1; leak 2 0 1 = 2; leak 0 0 0 = 1; house 12 = 4; unlink 0 1; house 12 = 1",
            "link 0 1 2; credits 2 0 1 = 2; leak 2 0 1 = 1; logout 0; attach 0 -1; house 12 = 1; attach 0 0",
            "credits 0 0 0 = 2; recover = 1");
        s.refused("promise 19", "-9 if it has no CREDIT, or there is no such LINE.", Runs.PAIR
                + "; copy 0 0; write 0 0 0 0 4 50; tick 9; drain 1; leak 1 4 0; leak 1 4 0; control 0 0 0 4;"
                + " control 1 0 0 4; tick 2;" + "leak 0 0 0; leak 0 0 0; leak 2 1 0", "leak 1 4 0", "leak 2 0 1",
            "leak 0 0 0", "leak 0 7 0", "leak 1 2 0", "leak 2 0 2", "leak 2 1 1", "leak 2 3 2");
        s.holds("promise 19", "A CREDIT of a LINE is LEAKED.", Runs.PAIR, HOLD_PORT,
            "control 0 0 0 4; tick 1; credits 2 0 1 = 1; leak 2 0 1 = 1; credits 2 0 1 = 0; leak 2 0 1 = -9",
            "spoil 2 0 1 = 1; credits 2 0 1 = 1; leak 2 0 1 = 2; leak 2 0 1 = -9; house 12 = 4");
        s.holds("promise 20", "Returns how many.",
            "recover = 0; attach 7 3; link 0 1 1; leak 0 7 0; leak 1 7 0; leak 2 1 0; leak 2 1 0; recover = 4",
            "recover = 0; credits 2 1 0 = 2; credits 0 7 0 = 2; credits 1 7 0 = 2; house 12 = 0; house 9 = 0");
        s.holds("promise 20", "All CREDITS of all LINES that were LEAKED come back.", Runs.PAIR, HOLD_PORT,
            "control 0 0 0 4; tick 1; leak 2 0 1; fall 2; link 2 3 1; leak 2 3 2; recover = 4; credits 2 0 1 = 1",
            "credits 1 4 0 = 2; credits 2 3 2 = 2; tick 1 = 1; credits 2 0 1 = 2");
        s.holds("promise 21", "Returns it; 0 without one.", "notice 0 = 0; notice 7 = 0;" + Runs.PAIR,
            "logout 4; notices 0 = 2 5 6 -5; notice 0 = 2; notices 0 = 5 6 -5; notice 0 = 5; notice 0 = 6",
            "notice 0 = -5; notice 0 = 0; notices 0 =; notice 4 = 0; house 9 = 0");
        s.holds("promise 22", "Returns how many FRAMES and ACKS crossed LINES.", ACKED,
            "tick 1 = 0; tick 20 = 0; control 0 0 0 4; tick 1 = 2; tick 1 = 2; tick 1 = 2; tick 1 = 0; house 11 = 6",
            "write 0 0 0 0 4 7; tick 20 = 22; house 11 = 28; house 10 = 45");
    }

    private static void questions(Sentences s) {
        s.holds("promise 42", "Returns its CREDITS; NONE if there is no such LINE.",
            "credits 0 0 0 = -1; credits 1 7 0 = -1; credits 2 3 0 = -1; credits 2 3 3 = -1; attach 7 0; link 3 0 1",
            "credits 1 7 0 = 2; credits 2 3 0 = 2; leak 2 3 0; credits 2 3 0 = 1; leak 2 3 0; credits 2 3 0 = 0",
            "fall 3; credits 2 3 0 = 0; credits 2 0 3 = 2");
        s.holds("promise 42", "(with 0 and 1 not looked at)",
            "attach 0 0; credits 0 0 -1 = 2; credits 1 0 4 = 2; credits 1 0 2147483647 = 2; buffer 0 0 -9 =",
            "leak 0 0 -9 = 1; spoil 1 0 99 = -9");
        s.holds("promise 43",
            "Returns its BUFFER, the oldest FRAME first, each as the EXCHANGE, \">\" (first SEQUENCE) or \"<\" "
                + "(second one),"
                + " and its number, of an ACK with \"!\" behind, with one blank between; \"\" without.", ACKED,
            "buffer 0 0 0 =; buffer 1 4 0 =; buffer 0 7 0 =; buffer 2 0 1 =; leak 1 0 0; leak 1 0 0; read 0 0 0 0 2",
            "tick 1; buffer 1 4 0 = 1>0; tick 2; buffer 0 4 0 = 1>0! 1<0; recover; leak 1 4 0; leak 1 4 0; tick 3",
            "buffer 0 0 0 = 1<0!");
        s.holds("promise 48",
            "5 0 OPEN, 1 DONE, 2 LOST, 6 its STATUS (NONE if it is not DONE), 7 how many TICKS there were since "
                + "it began, till it" + " was DONE or LOST (that one counted)", ONE,
            "tick 5; control 0 0 0 4; control 0 1 0 4; ofExchange 1 7 = 0; tick 2; ofExchange 1 7 = 2; abort 0 1",
            "tick 3; ofExchange 1 7 = 3; ofExchange 2 7 = 2; ofExchange 1 5 = 1; ofExchange 2 5 = 2",
            "ofExchange 1 6 = 0; ofExchange 2 6 = -1");
        s.holds("promise 48",
            "8 how many of its FRAMES and ACKS are in rows and BUFFERS, 9 how many FRAMES the PORT TOOK (no "
                + "ACKS), 10 how many the" + " HOST TOOK (likewise)", ACKED,
            "read 0 0 0 0 4; ofExchange 1 8 = 1; tick 2; ofExchange 1 8 = 6; ofExchange 1 9 = 1; ofExchange 1 10 = 0",
            "tick 1; ofExchange 1 8 = 5; ofExchange 1 10 = 0; tick 1; ofExchange 1 10 = 1; tick 1; ofExchange 1 9 = 1",
            "ofExchange 1 10 = 2; tick 9; ofExchange 1 8 = 0; ofExchange 1 10 = 5; ofExchange 1 9 = 1");
        s.holds("promise 48", "12 how many ACKS the HOST TOOK, 13 how many ACKS the PORT TOOK", ACKED,
            "read 0 0 0 0 4; tick 2; ofExchange 1 12 = 0; tick 1; ofExchange 1 12 = 1; tick 2; ofExchange 1 13 = 1",
            "tick 9; ofExchange 1 12 = 1; ofExchange 1 13 = 3; write 0 0 0 0 4 7; tick 20; ofExchange 2 12 = 5",
            "ofExchange 2 13 = 0");
        s.holds("promise 48", "11 1 if ACKED, 2 if URGENT, 3 if both, otherwise 0", ONE,
            "control 0 0 0 4; manner 0 true false; control 0 1 0 4; manner 0 false true; control 0 2 0 4",
            "manner 0 true true; control 0 3 0 4; ofExchange 1 11 = 0; ofExchange 2 11 = 1; ofExchange 3 11 = 2",
            "ofExchange 4 11 = 3");
    }
}
