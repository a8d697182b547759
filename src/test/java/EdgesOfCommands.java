/** Section 4 and promises 11 to 17, 46 and 47, sentence by sentence: kinds, statuses, queues, and who may do what. */
final class EdgesOfCommands {
    /** All hosts and the ports 4 and 5 at one switch; a command of one frame each way takes three ticks there. */
    private static final String HOUSE = "attach 0 0; attach 1 0; attach 2 0; attach 3 0; attach 4 0; attach 5 0;"
        + "zone 0 0 true; zone 0 1 true; zone 0 2 true; zone 0 3 true; zone 0 4 true; zone 0 5 true;"
        + "login 0; login 1; login 2; login 3; login 4; login 5;";
    /** Likewise, with a leak, a copy that kept a block, and caches that have some. */
    private static final String KEPT = HOUSE + "leak 1 5 0; copy 0 0; write 0 0 0 0 4 50; tick 7; drain 1;";
    /** Host 0 has commands in two ticks more than are done, so that those of host 1 find the queue as they come. */
    private static final String BOTH = Runs.BOTH_PORTS + ";";
    private static final String FOUR_OF_0 = "control 0 0 0 4; control 0 1 0 4; control 0 2 0 4; control 0 3 0 4;";
    private static final String FOUR_OF_1 = "control 1 0 0 4; control 1 1 0 4; control 1 2 0 4; control 1 3 0 4;";

    private EdgesOfCommands() {
    }

    static void all(Sentences s) {
        blocks(s);
        values(s);
        statuses(s);
        queues(s);
        busy(s);
        urgent(s);
        denied(s);
        attention(s);
        conflicts(s);
        done(s);
        resets(s);
        flushes(s);
        beginnings(s);
        endings(s);
        mannersAndDenials(s);
        questions(s);
    }

    private static String by(int promise) {
        return "promise " + promise + " by section 4";
    }

    private static void blocks(Sentences s) {
        s.holds(by(11), "0 READ (BLOCKS from a first one on, 1 to 4)", HOUSE,
            "write 0 0 0 0 4 10; tick 7; write 0 0 0 4 4 14; tick 7; read 0 0 0 0 1; tick 4; told 0 0 = good 10",
            "read 0 0 0 0 4; tick 7; told 0 0 = good 10 11 12 13; read 0 0 0 4 4; tick 7; told 0 0 = good 14 15 16 17",
            "read 0 0 0 7 1; tick 4; told 0 0 = good 17");
        s.holds(by(12), "1 WRITE (likewise", HOUSE,
            "write 0 0 0 0 1 5; tick 4; values 0 = 5 0 0 0 0 0 0 0; write 0 0 0 4 4 6; tick 7",
            "values 0 = 5 0 0 0 6 7 8 9; write 0 0 0 7 1 1; tick 4; values 0 = 5 0 0 0 6 7 8 1; write 0 0 0 0 4 2",
            "tick 7; values 0 = 2 3 4 5 6 7 8 1");
    }

    private static void values(Sentences s) {
        s.holds(by(12), "the VALUES v, v + 1 and so on, modulo 1000)", HOUSE,
            "write 0 0 0 0 4 999; tick 7; values 0 = 999 0 1 2 0 0 0 0; write 0 0 0 0 4 996; tick 7",
            "values 0 = 996 997 998 999 0 0 0 0; write 0 0 0 4 4 997; tick 7",
            "values 0 = 996 997 998 999 997 998 999 0; write 0 0 0 0 1 999; tick 4; value 0 0 = 999",
            "write 0 0 0 0 1 0; tick 4; value 0 0 = 0",
            "cache 0 = 0.0=0 0.1=997 0.2=998 0.3=999 0.4=997 0.5=998 0.6=999 0.7=0");
    }

    private static void statuses(Sentences s) {
        s.holds(by(48), "STATUS: 0 GOOD, 1 CHECK, 2 CONFLICT, 3 BUSY, 4 DENIED.", HOUSE,
            "control 0 0 0 5; tick 3; ofExchange 1 6 = 0; control 1 0 0 4; tick 3; ofExchange 2 6 = 1",
            "control 0 0 0 2; tick 3; control 1 0 0 2; tick 3; ofExchange 4 6 = 2; deny 1 0 true; control 1 0 0 4",
            "tick 3; ofExchange 5 6 = 4; told 1 0 = denied");
        s.holds(by(13), "2 RESERVE, 3 RELEASE, 4 TEST, 5 RESET, 6 FLUSH. Each is of one VOLUME.", HOUSE,
            "control 0 0 1 2; tick 3; ofVolume 1 0 = 0; ofVolume 0 0 = -1; ofVolume 2 0 = -1; control 0 0 1 4; tick 3",
            "ofVolume 1 0 = 0; control 0 0 0 3; tick 3; ofVolume 1 0 = 0; control 0 0 1 3; tick 3; ofVolume 1 0 = -1",
            "control 0 0 3 5; tick 3; ofVolume 3 1 = 14; ofVolume 1 1 = 0; ofExchange 1 3 = 2; ofExchange 4 3 = 3",
            "ofExchange 2 3 = 4; ofExchange 5 3 = 5; ofExchange 5 4 = 3");
    }

    private static void queues(Sentences s) {
        s.holds(by(46), "QUEUE of a CONTROLLER: at most three COMMANDS", BOTH, FOUR_OF_0, FOUR_OF_1,
            "tick 2; queue 0 = 5; tick 1; queue 0 = 2 6; tick 1; queue 0 = 6 3; house 13 = 2; tick 1; queue 0 = 3 4",
            "told 1 2 = busy; told 1 3 = open; tick 1; told 1 3 = busy; told 1 1 = open; tick 9; told 1 1 = good",
            "told 0 3 = good");
        s.holds(by(46), "otherwise behind all", BOTH,
            "manner 0 true false; control 0 0 0 4; control 0 1 0 4; control 1 0 0 4; control 1 1 0 4; tick 2",
            "queue 0 = 3; tick 1; queue 0 = 2 4; tick 1; queue 0 = 4; tick 1; queue 0 =");
        s.holds("promise 46",
            "Returns its QUEUE, the first one ahead: the numbers of EXCHANGES, with one blank between; \"\" "
                + "without.", "queue 0 =; queue 1 =;" + BOTH, FOUR_OF_0, FOUR_OF_1,
            "tick 3; queue 0 = 2 6; queue 1 =; tick 20; queue 0 =");
    }

    private static void busy(Sentences s) {
        String rule =
            "One that comes as there are three has the STATUS BUSY at once, is not queued, and nothing is done "
                + "(its second SEQUENCE goes" + " at once).";
        s.holds(by(46), rule, BOTH, FOUR_OF_0,
            "control 1 0 0 4; control 1 1 0 4; write 1 2 0 0 2 5; read 1 3 0 0 4; tick 5; queue 0 = 3 4",
            "told 1 2 = open; tick 1; queue 0 = 4 7; tick 1; queue 0 = 7 8; tick 1; queue 0 = 8; value 0 0 = 5",
            "tick 9; told 1 2 = good; told 1 3 = good 5 6 0 0");
        s.holds(by(46), rule, BOTH, FOUR_OF_0,
            "control 1 0 0 4; control 1 1 0 4; control 1 2 0 2; read 1 3 0 0 4; tick 4; queue 0 = 6 3",
            "buffer 1 1 0 = 7<0; ofExchange 7 6 = -1; told 1 2 = open; tick 1; told 1 2 = busy; ofExchange 7 6 = 3",
            "ofExchange 7 10 = 1; ofVolume 0 0 = -1; tick 1; told 1 3 = busy; ofExchange 8 10 = 1; tick 9",
            "ofVolume 0 0 = -1; told 1 1 = good");
        s.holds(by(46), "has the STATUS BUSY at once, is not queued, and nothing is done", BOTH,
            "deny 1 0 true; copy 0 0; revert 0 0; control 0 0 0 4; tick 3; deny 0 0 true;" + FOUR_OF_0
                + "control 1 0 0 5; control 1 1 0 5",
            "control 1 2 0 5; tick 5; told 1 2 = busy; ofVolume 0 1 = 14; tick 9; told 1 1 = denied",
            "ofVolume 0 1 = 14");
        s.holds(by(46), "is not queued, and nothing is done", BOTH,
            "copy 0 0; revert 0 0; control 0 0 2 4; control 0 1 2 4; control 0 2 2 4; control 0 3 2 4",
            "control 1 0 2 4; control 1 1 2 4; control 1 2 0 4; tick 5; told 1 2 = busy; ofVolume 0 1 = 15",
            "control 1 2 0 4; tick 9; told 1 2 = check; ofVolume 0 1 = 13");
        s.holds(by(46), "QUEUE of a CONTROLLER",
            "attach 0 0; attach 1 0; attach 4 0; attach 5 0; zone 0 0 true; zone 0 1 true; zone 0 4 true",
            "zone 0 5 true; login 0; login 1; login 4; login 5; leak 1 5 0; leak 1 5 0; control 0 0 0 4",
            "control 1 0 1 4; tick 2; queue 0 =; queue 1 =; recover; tick 1; tick 1; queue 1 =; tick 1",
            "told 1 0 = good");
    }

    private static void urgent(Sentences s) {
        String rule = "one that comes and is URGENT goes ahead of all that are not, behind those that are";
        s.holds(by(46), rule, BOTH, "manner 1 false true;" + FOUR_OF_0 + FOUR_OF_1,
            "tick 2; queue 0 = 1; tick 1; queue 0 = 1 2; tick 1; queue 0 = 2 3; told 1 0 = good; told 0 0 = open",
            "tick 1; queue 0 = 3 4; told 1 2 = busy; told 0 0 = good; tick 1; told 1 3 = busy");
        s.holds(by(46), rule, BOTH,
            "manner 0 false true; manner 1 false true; control 0 0 0 4; control 0 1 0 4; control 0 2 0 4",
            "control 1 0 0 4; control 1 1 0 4; tick 2; queue 0 = 4; tick 1; queue 0 = 2 5; tick 1; queue 0 = 5 3",
            "tick 1; queue 0 = 3; tick 1; queue 0 =");
        s.holds(by(46), rule, BOTH,
            "control 1 0 0 4; control 1 1 0 4; manner 1 false true; control 1 2 0 4; manner 0 false true",
            "control 0 0 0 4; manner 0 false false; control 0 1 0 4; tick 2; queue 0 = 1; tick 1; queue 0 = 5 2",
            "tick 1; queue 0 = 5 2; tick 1; queue 0 = 2");
        s.holds(by(46), "otherwise behind all", BOTH,
            "manner 0 false true; control 0 0 0 4; control 0 1 0 4; control 0 2 0 4; control 1 0 0 4; control 1 1 0 4",
            "tick 2; queue 0 = 4; tick 1; queue 0 = 4 5; tick 1; queue 0 = 4 5; told 0 2 = open; tick 1; queue 0 = 5",
            "told 0 2 = good");
    }

    private static void denied(Sentences s) {
        String rule =
            "A HOST may be DENIED a VOLUME (not at first): as its COMMAND is DONE, the STATUS is DENIED ahead "
                + "of all else, and nothing is" + " done.";
        s.holds(by(17), rule, HOUSE,
            "ofVolume 0 5 = 0; ofVolume 3 5 = 0; deny 0 0 true = 0; write 0 0 0 0 1 5; tick 4; told 0 0 = denied",
            "value 0 0 = 0; cache 0 =; control 0 0 0 2; tick 3; ofVolume 0 0 = -1; control 0 0 0 5; tick 3",
            "ofVolume 0 1 = 0; read 0 0 0 0 1; tick 3; told 0 0 = denied; ofExchange 4 10 = 1; control 0 0 0 4",
            "tick 3; told 0 0 = denied; control 0 0 1 4; tick 3; told 0 0 = good; write 1 0 0 0 1 5; tick 4",
            "told 1 0 = good; control 0 0 0 6; tick 3; cache 0 = 0.0=5; told 0 0 = denied");
        s.holds(by(17), rule, HOUSE,
            "control 1 0 0 2; tick 3; copy 0 0; deny 0 0 true; control 1 0 0 3; tick 3; revert 0 0; control 1 0 0 4",
            "tick 3; control 1 0 0 2; tick 3; ofVolume 0 1 = 13; ofVolume 0 0 = 1; write 0 0 0 0 1 5; tick 4",
            "told 0 0 = denied; ofVolume 0 1 = 13; deny 0 0 false = 1; write 0 0 0 0 1 5; tick 4; told 0 0 = check",
            "write 0 0 0 0 1 5; tick 4; told 0 0 = conflict");
        s.holds(by(17), "as its COMMAND is DONE", HOUSE,
            "control 0 0 0 4; tick 1; deny 0 0 true; tick 2; told 0 0 = denied; control 0 0 0 4; tick 1",
            "deny 0 0 false; tick 2; told 0 0 = good");
        s.holds(by(17), "A HOST may be DENIED a VOLUME", HOUSE,
            "control 0 0 0 2; tick 3; deny 0 0 true; control 0 0 0 3; tick 3; told 0 0 = denied; ofVolume 0 0 = 0");
    }

    private static void attention(Sentences s) {
        String rule =
            "Of each COMMAND that is not DENIED first: if there is ATTENTION of its HOST and VOLUME, that goes, "
                + "and the STATUS is CHECK;" + " nothing else is done.";
        s.holds(by(47), "ATTENTION of a HOST and a VOLUME (not there at first).", HOUSE,
            "ofVolume 0 1 = 0; ofVolume 3 1 = 0; control 0 0 0 4; tick 3; told 0 0 = good; control 3 0 3 4; tick 3",
            "told 3 0 = good");
        s.holds(by(47), rule, HOUSE,
            "copy 0 0; revert 0 0; write 0 0 0 0 1 5; control 1 0 0 2; control 2 0 0 5; tick 9; told 0 0 = check",
            "told 1 0 = check; told 2 0 = check; ofVolume 0 1 = 8; value 0 0 = 0; ofVolume 0 0 = -1",
            "write 0 0 0 0 1 5; tick 4; told 0 0 = good; value 0 0 = 5; ofVolume 0 1 = 8; read 3 0 0 0 4; tick 3",
            "told 3 0 = check; ofVolume 0 1 = 0");
        s.holds(by(47), "ATTENTION of its HOST and VOLUME, that goes", HOUSE,
            "copy 0 0; revert 0 0; copy 1 0; revert 1 0; control 2 0 0 4; tick 3; told 2 0 = check; ofVolume 0 1 = 11",
            "ofVolume 1 1 = 15; control 2 0 0 4; tick 3; told 2 0 = good; control 2 0 1 4; tick 3; told 2 0 = check",
            "ofVolume 1 1 = 11");
        s.holds(by(47), rule, HOUSE,
            "copy 0 0; revert 0 0; control 0 0 1 4; tick 3; told 0 0 = good; control 0 0 0 6; tick 3",
            "told 0 0 = check; ofVolume 0 3 = 8; control 0 0 0 3; tick 3; told 0 0 = good; control 1 0 0 3; tick 3",
            "told 1 0 = check; ofVolume 0 1 = 12");
        s.holds(by(47), rule, HOUSE,
            "control 1 0 0 2; tick 3; control 0 0 0 5; tick 3; ofVolume 0 1 = 14; control 0 0 0 2; tick 3",
            "ofVolume 0 0 = 0; write 1 0 0 0 1 5; tick 4; told 1 0 = check; write 1 0 0 0 1 5; tick 4",
            "told 1 0 = conflict; ofVolume 0 1 = 12");
    }

    private static void conflicts(Sentences s) {
        String rule = "Otherwise, if the VOLUME is RESERVED by another HOST and it is a WRITE, RESERVE or FLUSH, the "
                + "STATUS is CONFLICT.";
        String held = HOUSE + "write 0 0 0 0 1 7; tick 4; control 0 0 0 2; tick 3;";
        s.holds(by(47), rule, held,
            "write 1 0 0 0 1 5; control 1 1 0 2; control 1 2 0 6; tick 9; told 1 0 = conflict; told 1 1 = conflict",
            "told 1 2 = conflict; ofVolume 0 0 = 0; cache 0 = 0.0=7; onSide 0 0 0 = 0; value 0 0 = 7");
        s.holds(by(47), rule, held,
            "read 1 0 0 0 1; control 1 1 0 3; control 1 2 0 4; tick 9; told 1 0 = good 7; told 1 1 = good",
            "told 1 2 = good; ofVolume 0 0 = 0; control 1 3 0 5; tick 3; told 1 3 = good; ofVolume 0 0 = -1");
        s.holds(by(47), "RESERVED by another HOST", held,
            "write 0 0 0 0 1 5; control 0 1 0 2; control 0 2 0 6; tick 9; told 0 0 = good; told 0 1 = good",
            "told 0 2 = good; onSide 0 0 0 = 5; write 1 0 1 0 1 5; control 1 1 2 2; tick 9; told 1 0 = good",
            "ofVolume 2 0 = 1; control 0 3 0 3; tick 3; write 1 0 0 0 1 9; tick 4; told 1 0 = good; value 0 0 = 9");
    }

    private static void done(Sentences s) {
        s.holds(by(13), "Otherwise GOOD: READ and WRITE BLOCK by BLOCK", HOUSE,
            "copy 0 0; write 0 0 0 2 3 5; tick 6; copied 0 0 2 = 0; cache 0 = 0.2=5 0.3=6 0.4=7; read 0 0 0 1 4",
            "tick 7; told 0 0 = good 0 5 6 7; forget 0 0 = 3");
        s.holds(by(13), "RESERVE: it is RESERVED by the HOST", HOUSE,
            "control 3 0 3 2; tick 3; ofVolume 3 0 = 3; control 3 0 3 2; tick 3; told 3 0 = good; ofVolume 3 0 = 3",
            "ofVolume 2 0 = -1");
        s.holds(by(13), "RELEASE: if it is the holder, it is RESERVED by nobody", HOUSE,
            "control 1 0 0 3; tick 3; told 1 0 = good; ofVolume 0 0 = -1; control 0 0 0 2; tick 3; control 1 0 0 3",
            "tick 3; told 1 0 = good; ofVolume 0 0 = 0; control 0 0 0 3; tick 3; told 0 0 = good; ofVolume 0 0 = -1");
        s.holds(by(13), "TEST: nothing", HOUSE,
            "write 1 0 0 0 1 5; tick 4; control 1 0 0 2; tick 3; control 0 0 0 4; tick 3; told 0 0 = good",
            "ofVolume 0 0 = 1; ofVolume 0 1 = 0; cache 0 = 0.0=5; house 13 = 0");
    }

    private static void resets(Sentences s) {
        String rule = "RESET: it is RESERVED by nobody, and all other HOSTS have ATTENTION of the VOLUME";
        s.holds(by(13), rule, HOUSE,
            "control 3 0 1 2; tick 3; ofVolume 1 0 = 3; control 0 0 1 5; tick 3; ofVolume 1 0 = -1; ofVolume 1 1 = 14",
            "ofVolume 0 1 = 0; ofVolume 3 1 = 0; told 0 0 = good; control 0 0 1 4; tick 3; told 0 0 = good");
        s.holds(by(13), rule, HOUSE,
            "control 3 0 1 2; tick 3; control 3 0 1 5; tick 3; ofVolume 1 0 = -1; ofVolume 1 1 = 7; logout 1",
            "logout 2; control 3 0 1 5; tick 3; ofVolume 1 1 = 7; control 0 0 1 5; tick 3; told 0 0 = check",
            "ofVolume 1 1 = 6; control 0 0 1 5; tick 3; ofVolume 1 1 = 14");
    }

    private static void flushes(Sentences s) {
        String rule =
            "FLUSH: all BLOCKS of the VOLUME in the CACHES are STORED, in their sequence, and go out of both.";
        s.holds(by(13), rule, HOUSE,
            "control 0 0 0 6; tick 3; told 0 0 = good; write 0 0 1 7 1 1; tick 4; write 0 0 0 7 1 2; tick 4",
            "write 0 0 1 0 1 3; tick 4; write 0 0 0 0 1 4; tick 4; cache 0 = 1.7=1 0.7=2 1.0=3 0.0=4; control 0 0 1 6",
            "tick 3; cache 0 = 0.7=2 0.0=4; cache 1 = 0.7=2 0.0=4; onSide 1 0 7 = 1; onSide 1 1 0 = 3",
            "onSide 0 0 7 = 0; control 0 0 0 6; tick 3; cache 0 =; cache 1 =; onSide 0 1 7 = 2; onSide 0 0 0 = 4",
            "control 0 0 0 6; tick 3; told 0 0 = good");
        s.holds(by(13), rule, HOUSE,
            "write 0 0 0 0 4 1; tick 7; write 0 0 0 4 4 5; tick 7; breakSide 0 0; control 0 0 0 6; tick 3; cache 0 =",
            "ofSide 0 0 2 = 255; onSide 0 1 7 = 8; onSide 0 0 7 = 0; crash 0; control 0 0 0 6; tick 3",
            "told 0 0 = good");
    }

    private static void beginnings(Sentences s) {
        String out = "-9 if the TAG is of one that is OPEN, or there is no PATH.";
        String open = KEPT + "attach 7 1; control 0 0 0 4; control 1 0 0 4; logout 2; logout 3; abort 1 0;";
        s.holds("promise 11", "Returns the number of the EXCHANGE; " + out, open,
            "read 0 0 0 0 1 = -9; read 0 1 0 0 1 = 4; read 1 0 0 0 1 = 5; read 2 0 0 0 1 = -9; tick 9",
            "read 0 0 0 0 1 = 6; house 4 = 6");
        s.refused("promise 11", out, open, "read 0 0 0 0 1", "read 0 0 1 4 4", "read 2 0 0 0 1", "read 3 3 3 0 1");
        s.refused("promise 11", "or there is no PATH.", HOUSE + "logout 4; logout 5", "read 0 0 0 0 1",
            "read 0 3 1 0 1");
        s.refused("promise 12", "-9 likewise.", open, "write 0 0 0 0 1 0", "write 0 0 1 4 4 999", "write 2 0 0 0 1 0",
            "write 3 3 3 0 1 0");
        s.refused("promise 13", "-9 likewise.", open, "control 0 0 0 2", "control 0 0 1 6", "control 2 0 0 4",
            "control 3 3 3 4");
        s.thrown("promise 11", out + " .. Throws IllegalArgumentException", Sentences.ARGUMENT, open,
            "read 0 0 0 0 5", "read 2 0 0 0 0", "read 0 0 0 8 1", "read 2 1 0 7 2");
        s.thrown("promise 12", "-9 likewise. .. Throws IllegalArgumentException", Sentences.ARGUMENT, open,
            "write 0 0 0 0 5 0", "write 2 0 0 0 1 1000", "write 0 0 0 0 1 -1", "write 2 1 0 7 2 0");
        s.thrown("promise 13", "-9 likewise. .. Throws IllegalArgumentException", Sentences.ARGUMENT, open,
            "control 0 0 0 1", "control 2 0 0 7");
        s.thrown("promise 11", out + " .. Throws IndexOutOfBoundsException", Sentences.INDEX, open, "read 2 4 0 0 1",
            "read 2 0 4 0 1", "read 0 0 -1 0 1");
        s.holds("promise 12", "Returns the number of the EXCHANGE", open,
            "write 0 1 0 0 1 0 = 4; write 1 1 3 4 4 999 = 5; write 0 2 0 7 1 0 = 6");
        s.holds("promise 13", "Returns the number of the EXCHANGE", open,
            "control 0 1 0 2 = 4; control 0 2 0 6 = 5; control 0 3 3 4 = 6; ofExchange 6 1 = 5");
    }

    private static void endings(Sentences s) {
        String lost = HOUSE + "write 0 0 0 2 2 30; abort 0 0;";
        s.holds("promise 14",
            "The same COMMAND as that of the last EXCHANGE of a TAG once more, if that was LOST, by the PATH "
                + "that there is now.", lost,
            "zone 0 4 false; again 0 0 = 2; ofExchange 2 1 = 5; ofExchange 2 3 = 1; ofExchange 2 4 = 0",
            "row 0 = 2>0 2>1 2>2; tick 5; values 0 = 0 0 30 31 0 0 0 0; told 0 0 = good; ofExchange 1 5 = 2",
            "ofExchange 1 1 = 4; read 0 0 1 7 1 = 3; abort 0 0; again 0 0 = 4; abort 0 0; again 0 0 = 5; tick 4",
            "told 0 0 = good 0; control 1 0 0 2; abort 1 0; manner 1 true true; again 1 0 = 7; ofExchange 7 11 = 3");
        s.holds("promise 14", "Returns the number of the new EXCHANGE", lost,
            "again 0 0 = 2; abort 0 0 = 2; again 0 0 = 3; house 4 = 3; house 5 = 1");
        s.refused("promise 14", "-9 if the last one was not LOST, there is none, or there is no PATH.", KEPT
                + "control 0 0 0 4; tick 3; control 0 1 0 4; control 1 0 0 4; logout 1; control 0 2 0 4; abort 0 2;"
                + " control 0 2 0 4; tick 3", "again 0 0", "again 0 2", "again 0 3", "again 3 0", "again 1 0",
            "again 1 1");
        s.refused("promise 14", "-9 if the last one was not LOST", KEPT
                + "control 0 0 0 4; abort 0 0; again 0 0; control 0 1 1 4", "again 0 0", "again 0 1");
        s.holds("promise 15", "Returns its number; -9 if it is not OPEN, or there is none.", HOUSE,
            "control 0 3 0 4 = 1; control 0 1 0 4 = 2; abort 0 1 = 2; abort 0 3 = 1; abort 0 3 = -9",
            "control 0 3 0 4 = 3; abort 0 3 = 3");
        s.refused("promise 15", "-9 if it is not OPEN, or there is none.", KEPT
                + "control 0 0 0 4; tick 3; control 0 1 0 4; abort 0 1", "abort 0 0", "abort 0 1", "abort 0 2",
            "abort 3 3");
        s.holds("promise 15", "The last EXCHANGE of a TAG is given up: it is LOST.", HOUSE,
            "read 0 0 0 0 4; tick 2; abort 0 0 = 1; told 0 0 = lost; ofExchange 1 5 = 2; ofExchange 1 8 = 0; row 4 =",
            "house 7 = 1; tick 20; tick 20; ofExchange 1 7 = 2");
    }

    private static void mannersAndDenials(Sentences s) {
        s.holds("promise 16", "Returns how it was: 1 if ACKED, 2 if URGENT, 3 if both, otherwise 0.",
            "manner 0 false false = 0; manner 0 true false = 0; manner 0 true true = 1; manner 0 false true = 3",
            "manner 0 false false = 2; manner 0 false false = 0; manner 3 true true = 0; manner 3 true true = 3",
            "manner 1 false false = 0");
        s.holds("promise 16", "How EXCHANGES of a HOST are that begin from now on.", HOUSE,
            "control 0 0 0 4; manner 0 true true; ofExchange 1 11 = 0; control 0 1 0 4; ofExchange 2 11 = 3",
            "manner 0 false false; ofExchange 2 11 = 3; tick 9; ofExchange 1 12 = 0; ofExchange 2 12 = 1");
        s.holds("promise 17", "Returns 1 if it was, otherwise 0.",
            "deny 0 0 false = 0; deny 0 0 true = 0; deny 0 0 true = 1; deny 0 0 false = 1; deny 0 0 false = 0",
            "deny 3 3 true = 0; deny 3 2 true = 0; deny 2 3 true = 0; ofVolume 3 5 = 12; ofVolume 2 5 = 8",
            "ofVolume 0 5 = 0");
    }

    private static void questions(Sentences s) {
        s.holds("promise 47",
            "Returns of its last EXCHANGE: \"none\", \"open\", \"lost\", \"check\", \"conflict\", \"busy\", "
                + "\"denied\", or \"good\" (with a READ" + " behind it each VALUE with a blank ahead).", HOUSE,
            "told 0 0 = none; told 3 3 = none; control 0 0 0 5; told 0 0 = open; tick 3; told 0 0 = good",
            "read 1 0 0 0 2; tick 3; told 1 0 = check; read 1 0 0 0 2; tick 5; told 1 0 = good 0 0; write 1 0 0 0 2 9",
            "tick 5; told 1 0 = good; read 1 0 0 0 4; tick 6; told 1 0 = open; tick 1; told 1 0 = good 9 10 0 0",
            "abort 1 0 = -9; read 1 0 0 0 1; abort 1 0; told 1 0 = lost; control 1 0 0 2; tick 3; write 2 1 0 0 1 5",
            "tick 4; told 2 1 = check; write 2 1 0 0 1 5; tick 4; told 2 1 = conflict; deny 2 0 true; read 2 1 0 0 4",
            "tick 3; told 2 1 = denied; told 2 0 = none");
        s.holds("promise 47", "(with a READ behind it each VALUE with a blank ahead)", HOUSE,
            "write 0 0 0 0 2 998; tick 5; read 0 0 0 0 3; tick 2; write 1 0 0 0 4 1; tick 9",
            "told 0 0 = good 998 999 0; values 0 = 1 2 3 4 0 0 0 0; told 1 0 = good; read 0 0 0 7 1; tick 2",
            "told 0 0 = open; write 1 0 0 7 1 5; tick 9; told 0 0 = good 0");
        s.holds("promise 47", "\"busy\"", BOTH, FOUR_OF_0, FOUR_OF_1,
            "tick 5; told 1 2 = busy; told 1 1 = open; told 0 0 = good");
        s.holds("promise 48", "Returns that.", HOUSE,
            "manner 3 true true; read 3 2 1 4 3; ofExchange 1 0 = 3; ofExchange 1 1 = 5; ofExchange 1 2 = 2",
            "ofExchange 1 3 = 0; ofExchange 1 4 = 1; ofExchange 1 11 = 3; tick 20; ofExchange 1 10 = 4",
            "ofExchange 1 9 = 1; ofExchange 1 7 = 7");
    }
}
