/** Promises 11 to 17 and 46 to 48, and what commands do in the array: statuses, queues, exchanges. */
public final class CommandsTest {
    private static final String INDEX = "IndexOutOfBoundsException";
    private static final String ARGUMENT = "IllegalArgumentException";

    /** All hosts and the ports 4 and 5 at one switch, so that a command takes three ticks. */
    private static final String HOUSE = "attach 0 0; attach 1 0; attach 2 0; attach 3 0; attach 4 0; attach 5 0;"
        + "zone 0 0 true; zone 0 1 true; zone 0 2 true; zone 0 3 true; zone 0 4 true; zone 0 5 true;"
        + "login 0; login 1; login 2; login 3; login 4; login 5";

    public static void main(String[] args) {
        Runs runs = new Runs();
        reads(runs);
        writes(runs);
        controls(runs);
        refusals(runs);
        againAndAbort(runs);
        manners(runs);
        denials(runs);
        attentions(runs);
        reservations(runs);
        flushes(runs);
        queues(runs);
        urgent(runs);
        exchanges(runs);
        wrongCalls(runs);
        runs.end();
    }

    private static void reads(Runs runs) {
        runs.run("promise 11: a read tells its values as they were when it was done",
            HOUSE, "write 0 0 2 4 4 11 = 1; tick 7; told 0 0 = good; read 1 3 2 4 4 = 2; told 1 3 = open; tick 3",
            "write 0 0 2 4 1 99 = 3; tick 4; told 1 3 = good 11 12 13 14; value 2 4 = 99; read 0 1 2 7 1 = 4",
            "read 0 2 2 3 2 = 5; tick 10; told 0 1 = good 14; told 0 2 = good 0 99; told 0 0 = good; told 0 3 = none");
        runs.run("promise 11: the path is chosen as it begins",
            HOUSE, "read 0 0 0 0 1 = 1; read 0 1 1 0 1 = 2; read 0 2 2 0 1 = 3; read 0 3 3 0 1 = 4; ofExchange 1 1 = 4",
            "ofExchange 2 1 = 5; ofExchange 3 1 = 4; ofExchange 4 1 = 5; zone 0 4 false; told 0 0 = lost",
            "read 0 0 0 0 1 = 5; ofExchange 5 1 = 5; told 0 1 = open; row 0 = 2>0 4>0 5>0; tick 9; told 0 0 = good 0");
    }

    private static void writes(Runs runs) {
        runs.run("promise 12: values count up from the first one, modulo 1000", HOUSE,
            "write 0 0 0 0 4 998 = 1; row 0 = 1>0 1>1 1>2 1>3 1>4; write 0 1 0 7 1 0 = 2; tick 12; told 0 0 = good",
            "values 0 = 998 999 0 1 0 0 0 0; told 0 1 = good; write 0 0 3 4 4 999 = 3; tick 7",
            "values 3 = 0 0 0 0 999 0 1 2");
        runs.run("promise 12: nothing is written till all frames have come", HOUSE,
            "write 0 0 0 0 2 5 = 1; tick 3; values 0 = 0 0 0 0 0 0 0 0; ofExchange 1 9 = 2; tick 1; value 0 0 = 5",
            "value 0 1 = 6; told 0 0 = open; abort 0 0 = 1; value 0 0 = 5; told 0 0 = lost; cache 0 = 0.0=5 0.1=6");
    }

    private static void controls(Runs runs) {
        runs.run("promise 13: other commands have one frame each way", HOUSE,
            "control 0 0 0 2 = 1; control 0 1 1 3 = 2; control 0 2 2 4 = 3; control 0 3 3 5 = 4; control 1 0 0 6 = 5",
            "row 0 = 1>0 2>0 3>0 4>0; row 1 = 5>0; ofExchange 1 3 = 2; ofExchange 4 3 = 5; ofExchange 5 3 = 6; tick 6",
            "told 0 0 = good; told 0 1 = good; told 0 2 = good; told 0 3 = good; told 1 0 = conflict",
            "ofVolume 0 0 = 0");
    }

    private static void refusals(Runs runs) {
        runs.run("promises 11 to 13: a tag that is open, or no path", HOUSE,
            "read 0 0 0 0 1 = 1; read 0 0 1 0 1 = -9; write 0 0 0 0 1 1 = -9; control 0 0 0 4 = -9",
            "read 0 1 0 0 1 = 2; read 1 0 0 0 1 = 3; house 9 = 3; house 4 = 3; tick 6; read 0 0 0 0 1 = 4",
            "abort 0 0 = 4; control 0 0 0 4 = 5; logout 0 = 1; read 0 0 0 0 1 = -9; write 0 0 0 0 1 1 = -9",
            "control 0 0 0 4 = -9; house 4 = 5; house 9 = 6");
        runs.run("promises 11 to 13: no port is seen", "attach 0 0; login 0; zone 0 0 true; read 0 0 0 0 1 = -9",
            "attach 4 0; login 4; read 0 0 0 0 1 = -9; zone 0 4 true; read 0 0 1 0 1 = 1; ofExchange 1 1 = 4");
    }

    private static void againAndAbort(Runs runs) {
        runs.run("promise 14: the same command once more, by the path and in the manner of now", HOUSE,
            "again 0 0 = -9; write 0 0 0 2 2 30 = 1; again 0 0 = -9; abort 0 0 = 1; manner 0 true true",
            "zone 0 4 false; again 0 0 = 2; ofExchange 2 0 = 0; ofExchange 2 1 = 5; ofExchange 2 2 = 0",
            "ofExchange 2 3 = 1; ofExchange 2 4 = 0; ofExchange 2 11 = 3; ofExchange 1 11 = 0; row 0 = 2>0 2>1 2>2",
            "again 0 0 = -9; tick 10; told 0 0 = good; values 0 = 0 0 30 31 0 0 0 0; again 0 0 = -9; house 9 = 4",
            "read 0 0 0 2 2 = 3; logout 0 = 1; again 0 0 = -9; login 0; again 0 0 = 4; tick 9; told 0 0 = good 30 31",
            "ofExchange 3 5 = 2; house 9 = 5");
        runs.run("promise 15: the last exchange of a tag is given up", HOUSE,
            "abort 0 0 = -9; read 0 0 0 0 4 = 1; read 0 1 0 0 4 = 2; tick 2; row 4 = 1<1 1<2 1<3 1<4; abort 0 0 = 1",
            "told 0 0 = lost; told 0 1 = open; row 4 =; ofExchange 1 8 = 0; ofExchange 1 5 = 2; ofExchange 1 7 = 2",
            "abort 0 0 = -9; tick 20; abort 0 1 = -9; told 0 1 = good 0 0 0 0; house 9 = 3; house 7 = 1",
            "ofExchange 1 7 = 2");
        runs.run("promise 15: its command goes out of the queue", Runs.BOTH_PORTS,
            "control 0 0 0 2 = 1; control 1 0 0 2 = 2; tick 2; queue 0 = 2; house 13 = 1; abort 1 0 = 2; queue 0 =",
            "house 13 = 0; tick 2; told 0 0 = good; told 1 0 = lost; ofVolume 0 0 = 0");
    }

    private static void manners(Runs runs) {
        runs.run("promise 16: how exchanges are that begin from now on", HOUSE,
            "manner 0 true false = 0; manner 0 false true = 1; manner 0 true true = 2; manner 0 false false = 3",
            "manner 0 true false = 0; control 0 0 0 4 = 1; manner 0 false true = 1; control 0 1 0 4 = 2",
            "control 1 0 0 4 = 3; manner 0 true true; control 0 2 0 4 = 4; ofExchange 1 11 = 1; ofExchange 2 11 = 2",
            "ofExchange 3 11 = 0; ofExchange 4 11 = 3; tick 12; ofExchange 1 12 = 1; ofExchange 2 12 = 0",
            "ofExchange 4 12 = 1; manner 1 true true = 0");
        runs.each("promise 16: no such host", HOUSE, INDEX, "manner -1 true true", "manner 4 false false");
    }

    private static void denials(Runs runs) {
        runs.run("promise 17: a host that is denied a volume, ahead of all else, and nothing is done", HOUSE,
            "deny 0 1 true = 0; deny 0 1 true = 1; ofVolume 1 5 = 1; deny 3 1 true = 0; ofVolume 1 5 = 9",
            "ofVolume 0 5 = 0; control 1 0 1 5 = 1; tick 3; ofVolume 1 1 = 13; write 0 0 1 0 1 5 = 2; tick 4",
            "told 0 0 = denied; value 1 0 = 0; ofVolume 1 1 = 13; read 0 1 0 0 1 = 3; tick 4; told 0 1 = good 0",
            "deny 0 1 false = 1; deny 0 1 false = 0; write 0 0 1 0 1 5 = 4; tick 4; told 0 0 = check",
            "ofVolume 1 1 = 12; ofExchange 2 6 = 4; ofExchange 4 6 = 1; control 1 0 1 2 = 5; deny 1 1 true; tick 3",
            "told 1 0 = denied; ofVolume 1 0 = -1");
        runs.each("promise 17: no such host or volume", HOUSE, INDEX,
            "deny -1 0 true", "deny 4 0 true", "deny 0 -1 true", "deny 0 4 false");
    }

    private static void attentions(Runs runs) {
        runs.run("promise 13: a reset: nobody holds it, and all other hosts have attention, which the next command "
                + "of each takes", HOUSE,
            "control 1 0 0 2 = 1; tick 3; ofVolume 0 0 = 1; control 0 0 0 5 = 2; tick 3; told 0 0 = good",
            "ofVolume 0 0 = -1; ofVolume 0 1 = 14; ofVolume 1 1 = 0; read 1 0 0 0 4 = 3; tick 3; told 1 0 = check",
            "ofExchange 3 10 = 1; ofVolume 0 1 = 12; read 1 0 0 0 1 = 4; tick 4; told 1 0 = good 0",
            "control 2 0 0 5 = 5; tick 3; told 2 0 = check; ofVolume 0 1 = 8; control 2 0 0 5 = 6; tick 3",
            "ofVolume 0 1 = 11; control 3 0 0 2 = 7; tick 3; told 3 0 = check; ofVolume 0 0 = -1; control 0 0 1 4 = 8",
            "tick 3; told 0 0 = good; ofVolume 0 1 = 3");
        runs.run("promise 13: attention goes ahead of a conflict", HOUSE,
            "copy 0 0; revert 0 0 = 0; ofVolume 0 1 = 15; control 1 0 0 2 = 1; tick 3; told 1 0 = check",
            "control 1 0 0 2 = 2; tick 3; told 1 0 = good; write 2 0 0 0 1 5 = 3; tick 4; told 2 0 = check",
            "write 2 0 0 0 1 5 = 4; tick 4; told 2 0 = conflict; value 0 0 = 0; ofVolume 0 1 = 9");
    }

    private static void reservations(Runs runs) {
        runs.run("promise 13: a volume that is reserved: writes, reserves and flushes of others conflict, all else "
                + "goes", HOUSE,
            "control 0 0 0 2 = 1; write 0 1 0 0 1 7 = 2; tick 9; told 0 1 = good; write 1 0 0 0 1 5 = 3",
            "control 1 1 0 2 = 4; control 1 2 0 6 = 5; read 1 3 0 0 1 = 6; tick 12; told 1 0 = conflict",
            "told 1 1 = conflict; told 1 2 = conflict; told 1 3 = good 7; value 0 0 = 7; ofVolume 0 0 = 0",
            "cache 0 = 0.0=7; control 1 0 0 3 = 7; control 1 1 0 4 = 8; tick 4; told 1 0 = good; told 1 1 = good",
            "ofVolume 0 0 = 0; control 0 0 0 2 = 9; write 1 0 1 0 1 5 = 10; tick 4; told 0 0 = good; told 1 0 = good",
            "control 0 0 0 6 = 11; tick 3; told 0 0 = good; onSide 0 0 0 = 7; control 0 0 0 3 = 12; tick 3",
            "ofVolume 0 0 = -1; control 1 0 0 2 = 13; tick 3; ofVolume 0 0 = 1");
        runs.run("promise 13: a reset of another host takes the reservation", HOUSE,
            "control 0 0 3 2 = 1; tick 3; ofVolume 3 0 = 0; control 2 0 3 5 = 2; tick 3; told 2 0 = good",
            "ofVolume 3 0 = -1; ofVolume 3 1 = 11; control 2 0 3 2 = 3; tick 3; ofVolume 3 0 = 2");
    }

    private static void flushes(Runs runs) {
        runs.run("promise 13: a flush stores the blocks of one volume and takes them out of both caches", HOUSE,
            "write 0 0 0 3 1 5 = 1; tick 4; write 0 0 1 0 2 8 = 2; tick 5; write 0 0 0 1 1 6 = 3; tick 4",
            "cache 0 = 0.3=5 1.0=8 1.1=9 0.1=6; cache 1 = 0.3=5 1.0=8 1.1=9 0.1=6; ofVolume 0 3 = 2",
            "control 1 0 0 6 = 4; tick 3; told 1 0 = good; cache 0 = 1.0=8 1.1=9; cache 1 = 1.0=8 1.1=9",
            "onSide 0 0 3 = 5; onSide 0 1 1 = 6; onSide 1 0 0 = 0; ofVolume 0 3 = 0; ofVolume 1 3 = 2",
            "control 1 0 2 6 = 5; tick 3; told 1 0 = good; cache 0 = 1.0=8 1.1=9; control 1 0 1 6 = 6; tick 3",
            "cache 1 =; onSide 1 1 1 = 9; values 1 = 8 9 0 0 0 0 0 0");
    }

    private static void queues(Runs runs) {
        runs.run("promise 46: at most three commands, the fourth is busy at once; one is done in each tick",
            Runs.BOTH_PORTS,
            "control 0 0 0 4 = 1; control 0 1 0 4 = 2; control 0 2 0 4 = 3; control 0 3 0 4 = 4; control 1 0 0 4 = 5",
            "control 1 1 0 4 = 6; write 1 2 0 0 1 9 = 7; tick 1; queue 0 =; tick 1; queue 0 = 5; tick 1",
            "queue 0 = 2 6; queue 1 =; house 13 = 2; tick 1; queue 0 = 6 3; tick 1; queue 0 = 3 4; told 1 2 = open",
            "tick 5; queue 0 =; told 1 2 = busy; told 0 3 = good; told 1 1 = good; value 0 0 = 0; ofExchange 7 9 = 2",
            "house 6 = 7");
        runs.run("promise 46: busy, though it comes first at the second port, and nothing is done", Runs.BOTH_PORTS,
            "deny 1 0 true; read 0 0 0 0 1 = 1; read 0 1 0 0 1 = 2; read 0 2 0 0 1 = 3; read 0 3 0 0 1 = 4",
            "control 1 0 0 5 = 5; control 1 1 0 5 = 6; control 1 2 0 5 = 7; control 1 3 0 5 = 8; tick 3",
            "queue 0 = 2 6; tick 1; queue 0 = 6 3; row 6 =; buffer 1 1 0 = 7<0; told 1 2 = open; tick 1",
            "told 1 2 = busy; ofExchange 7 6 = 3; ofExchange 7 7 = 5; ofExchange 7 10 = 1; ofVolume 0 1 = 0",
            "told 0 0 = good 0; tick 9; told 1 0 = denied");
        runs.run("promise 46: a controller that falls has its queue empty",
            Runs.BOTH_PORTS, "control 0 0 0 4 = 1; control 1 0 0 4 = 2; tick 2; queue 0 = 2; crash 0 = 0; queue 0 =",
            "told 0 0 = lost; told 1 0 = lost; house 13 = 0");
        runs.each("promise 46: no such controller", HOUSE, INDEX, "queue -1", "queue 2");
    }

    private static void urgent(Runs runs) {
        runs.run("promise 46: an urgent one goes ahead of all that are not, and is busy like others", Runs.BOTH_PORTS,
            "manner 1 false true; control 0 0 0 4 = 1; control 0 1 0 4 = 2; control 0 2 0 4 = 3; control 0 3 0 4 = 4",
            "control 1 0 0 4 = 5; control 1 1 0 4 = 6; control 1 2 0 4 = 7; control 1 3 0 4 = 8; tick 2; queue 0 = 1",
            "tick 1; queue 0 = 1 2; tick 1; queue 0 = 2 3; tick 1; queue 0 = 3 4; told 1 0 = good; told 1 2 = busy",
            "tick 1; told 1 3 = busy; told 0 0 = good; tick 9; told 0 3 = good");
        runs.run("promise 46: and behind those that are urgent", Runs.BOTH_PORTS,
            "manner 0 false true; manner 1 false true; write 0 0 0 0 1 5 = 1; write 0 1 0 0 1 6 = 2; tick 1",
            "control 1 0 0 4 = 3; control 1 1 0 4 = 4; manner 1 false false; control 1 2 0 4 = 5; tick 2; queue 0 = 3",
            "tick 1; queue 0 = 4; tick 1; queue 0 = 2 5; tick 1; queue 0 = 5; tick 5; told 1 2 = good; value 0 0 = 6");
    }

    private static void exchanges(Runs runs) {
        runs.run("promise 48: what is asked of an exchange", HOUSE,
            "manner 2 true true; read 2 3 1 4 3 = 1; ofExchange 1 0 = 2; ofExchange 1 1 = 5; ofExchange 1 2 = 3",
            "ofExchange 1 3 = 0; ofExchange 1 4 = 1; ofExchange 1 5 = 0; ofExchange 1 6 = -1; ofExchange 1 7 = 0",
            "ofExchange 1 8 = 1; ofExchange 1 9 = 0; ofExchange 1 10 = 0; ofExchange 1 11 = 3; ofExchange 1 12 = 0",
            "ofExchange 1 13 = 0; tick 2; ofExchange 1 5 = 0; ofExchange 1 6 = -1; ofExchange 1 7 = 2",
            "ofExchange 1 8 = 5; ofExchange 1 9 = 1; tick 9; ofExchange 1 5 = 1; ofExchange 1 6 = 0",
            "ofExchange 1 7 = 7; ofExchange 1 8 = 0; ofExchange 1 10 = 4; told 2 3 = good 0 0 0; read 2 3 1 4 3 = 2",
            "tick 4; abort 2 3 = 2; ofExchange 2 5 = 2; ofExchange 2 6 = -1; ofExchange 2 7 = 4; ofExchange 2 10 = 1",
            "ofExchange 2 13 = 0; ofExchange 1 7 = 7");
        runs.each("promise 48: no such exchange goes ahead of a wrong question", HOUSE
                + "; read 0 0 0 0 1; read 0 1 0 0 1", INDEX, "ofExchange 0 0", "ofExchange 3 0", "ofExchange -1 0",
            "ofExchange 3 14", "ofExchange 0 -1", "ofExchange 2147483647 0", "ofExchange -2147483648 0");
        runs.each("promise 48: a wrong question", HOUSE + "; read 0 0 0 0 1", ARGUMENT, "ofExchange 1 -1",
            "ofExchange 1 14");
        runs.run("promise 47: what a host is told of a tag", HOUSE,
            "told 0 0 = none; read 0 0 0 6 2 = 1; told 0 0 = open; tick 5; told 0 0 = good 0 0; read 0 0 0 6 2 = 2",
            "told 0 0 = open; abort 0 0; told 0 0 = lost; write 0 0 0 6 2 1 = 3; tick 5; told 0 0 = good",
            "told 0 1 = none; control 1 0 0 5 = 4; tick 3; read 0 0 0 6 2 = 5; tick 3; told 0 0 = check",
            "told 1 0 = good; told 3 3 = none");
        runs.each("promise 47: no such host or tag", HOUSE, INDEX, "told -1 0", "told 4 0", "told 0 -1", "told 0 4");
    }

    private static void wrongCalls(Runs runs) {
        runs.each("promises 11 to 13: no such host, tag or volume goes ahead of all else", HOUSE + "; read 0 0 0 0 1",
            INDEX, "read -1 0 0 0 1", "read 4 0 0 0 1", "read 0 -1 0 0 1", "read 0 4 0 0 1", "read 0 0 -1 0 1",
            "read 0 0 4 0 1", "read 0 0 4 8 0", "write -1 0 0 0 1 0", "write 4 0 0 0 1 0", "write 0 -1 0 0 1 0",
            "write 0 4 0 0 1 0", "write 0 0 -1 0 1 0", "write 0 0 4 0 1 0", "write 0 4 0 0 1 1000", "control -1 0 0 4",
            "control 4 0 0 4", "control 0 -1 0 4", "control 0 4 0 4", "control 0 0 -1 4", "control 0 0 4 4",
            "control 4 0 0 7");
        runs.each("promises 11 to 13: wrong blocks, values and kinds, also where the call would be refused", HOUSE
                + "; read 0 0 0 0 1", ARGUMENT, "read 0 0 0 -1 1", "read 0 1 0 8 1", "read 0 1 0 0 0", "read 0 1 0 0 5",
            "read 0 1 0 5 4", "read 0 1 0 7 2", "read 0 1 0 -1 4", "read 0 1 0 -3 4", "write 0 1 0 -1 2 0",
            "read 0 1 0 2147483647 4", "read 0 1 0 4 2147483647", "write 0 0 0 -1 1 0", "write 0 1 0 8 1 0",
            "write 0 1 0 0 0 0", "write 0 1 0 0 5 0", "write 0 1 0 6 3 0", "write 0 1 0 0 1 -1", "write 0 1 0 0 1 1000",
            "control 0 0 0 1", "control 0 1 0 0", "control 0 1 0 7", "control 0 1 0 -1");
        runs.each("promises 14 and 15: no such host or tag", HOUSE, INDEX,
            "again -1 0", "again 4 0", "again 0 -1", "again 0 4", "abort -1 0", "abort 4 0", "abort 0 -1", "abort 0 4");
        runs.run("promises 11 and 12: the last blocks", HOUSE,
            "read 0 0 0 4 4 = 1; read 0 1 0 7 1 = 2; write 0 2 0 5 3 999 = 3; write 0 3 0 7 1 0 = 4; house 5 = 4");
    }
}
