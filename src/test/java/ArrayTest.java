/** Promises 23 to 31 and 49 to 56: controllers, caches, sides, copies, and what is asked of them. */
public final class ArrayTest {
    private static final String INDEX = "IndexOutOfBoundsException";
    private static final String ARGUMENT = "IllegalArgumentException";
    private static final String STATE = "IllegalStateException";

    /** Host 0 and the ports 4 and 5 at one switch. */
    private static final String HOUSE = "attach 0 0; attach 4 0; attach 5 0; zone 0 0 true; zone 0 4 true;"
        + "zone 0 5 true; login 0; login 4; login 5";
    /** VOLUME 0 has 10 to 13 in its first blocks, in the caches alone. */
    private static final String WRITTEN = HOUSE + "; write 0 0 0 0 4 10; tick 7";

    public static void main(String[] args) {
        Runs runs = new Runs();
        crashes(runs);
        restarts(runs);
        drains(runs);
        caches(runs);
        sides(runs);
        steps(runs);
        copies(runs);
        reverts(runs);
        forgets(runs);
        values(runs);
        questions(runs);
        wrongCalls(runs);
        runs.end();
    }

    private static void crashes(Runs runs) {
        runs.run("promise 23: what is in the cache is stored by the other controller", WRITTEN,
            "onSide 0 0 0 = 0; crash 1 = 4; isUp 1 = false; isUp 0 = true; cache 0 =; cache 1 =; onSide 0 0 0 = 10",
            "onSide 0 1 3 = 13; values 0 = 10 11 12 13 0 0 0 0; address 5 = -1; address 4 = 104; house 3 = 2",
            "write 0 0 0 1 2 50; tick 5; told 0 0 = good; cache 0 =; onSide 0 0 1 = 50; onSide 0 1 2 = 51",
            "ofVolume 0 3 = 0; crash 0 = 0",
            "isUp 0 = false; address 4 = -1; values 0 = 10 50 51 13 0 0 0 0; crash 0 = " + STATE, "crash 1 = " + STATE);
        runs.run("promise 23: exchanges with its ports are lost, and hosts have notices of it", HOUSE,
            "attach 6 0; attach 7 0; zone 0 6 true; zone 0 7 true; login 6; login 7; read 0 0 0 0 1 = 1",
            "read 0 1 1 0 1 = 2; tick 2; row 0 =; crash 0 = 0; told 0 0 = lost; told 0 1 = open; house 3 = 3",
            "notices 0 = 5 6 7 8 -5 -7; path 0 0 = 5; notices 4 =; names 0 = 105 107; tick 3; told 0 1 = good 0",
            "again 0 0 = 3; ofExchange 3 1 = 5; restart 0 = 2; address 4 = -1; path 0 0 = 5; login 6 = 106",
            "path 0 0 = 6; notices 0 = 5 6 7 8 -5 -7 7");
        runs.run("promise 23: a crash of the second one leaves what is stored", WRITTEN,
            "crash 0 = 4; crash 1 = 0; value 0 2 = 12; read 0 1 0 0 1 = -9; house 3 = 1; drain 32 = 0; cache 1 =");
        runs.run("promise 23: wrong calls", HOUSE, "crash -1 = " + INDEX, "crash 2 = " + INDEX,
            "crash 1 = 0; crash 1 = " + STATE, "crash 2147483647 = " + INDEX, "crash 0 = 0; crash 0 = " + STATE,
            "crash 2 = " + INDEX);
    }

    private static void restarts(Runs runs) {
        runs.run("promise 24: a controller is up again, with an empty cache and its ports logged out", WRITTEN,
            "crash 0 = 4; restart 0 = 2; isUp 0 = true; cache 0 =; cache 1 =; address 4 = -1; house 3 = 2",
            "value 0 3 = 13; write 0 0 0 0 1 77; tick 4; told 0 0 = good; cache 0 = 0.0=77; cache 1 = 0.0=77",
            "onSide 0 0 0 = 10; login 4 = 104; crash 1 = 1; crash 0 = 0; restart 1 = 1; isUp 1 = true; isUp 0 = false",
            "login 4 = -9; login 5 = 105; restart 0 = 2");
        runs.run("promise 24: wrong calls", "restart 0 = " + STATE, "restart 1 = " + STATE, "restart -1 = " + INDEX,
            "restart 2 = " + INDEX, "crash 0; restart 1 = " + STATE, "restart 0 = 2; restart 0 = " + STATE);
    }

    private static void drains(Runs runs) {
        runs.run("promise 25: the first blocks are stored and go out of both caches", WRITTEN,
            "write 0 0 1 7 1 5; tick 4; write 0 0 0 0 1 99; tick 4; cache 0 = 0.0=99 0.1=11 0.2=12 0.3=13 1.7=5",
            "drain 1 = 1; cache 0 = 0.1=11 0.2=12 0.3=13 1.7=5; cache 1 = 0.1=11 0.2=12 0.3=13 1.7=5",
            "onSide 0 0 0 = 99; onSide 0 1 0 = 99; onSide 0 0 1 = 0; drain 2 = 2; cache 1 = 0.3=13 1.7=5",
            "onSide 0 1 2 = 12; onSide 0 1 3 = 0; drain 32 = 2; cache 0 =; drain 1 = 0; onSide 1 0 7 = 5",
            "values 0 = 99 11 12 13 0 0 0 0; house 9 = 0");
        runs.run("promise 25: all that a cache can hold", HOUSE, writeAll(0), writeAll(1), writeAll(2), writeAll(3),
            "ofVolume 0 3 = 8; ofVolume 3 3 = 8; write 0 0 0 5 1 1; tick 4; drain 31 = 31; cache 0 = 3.7=7",
            "cache 1 = 3.7=7; drain 32 = 1; values 3 = 0 1 2 3 4 5 6 7; onSide 0 0 5 = 1");
        runs.each("promise 25: not 1 to 32 blocks", WRITTEN, ARGUMENT, "drain 0", "drain 33", "drain -1",
            "drain 2147483647");
    }

    private static String writeAll(int volume) {
        return "write 0 0 " + volume + " 0 4 0; tick 7; write 0 0 " + volume + " 4 4 4; tick 7";
    }

    private static void caches(Runs runs) {
        runs.run("promise 54: a block that comes again keeps its place, one that was stored comes behind", HOUSE,
            "write 0 0 3 6 2 100; tick 5; cache 0 = 3.6=100 3.7=101; write 0 0 0 0 1 5; tick 4; write 0 0 3 6 1 200",
            "tick 4; cache 0 = 3.6=200 3.7=101 0.0=5; cache 1 = 3.6=200 3.7=101 0.0=5; drain 1 = 1",
            "write 0 0 3 6 1 300; tick 4; cache 0 = 3.7=101 0.0=5 3.6=300; onSide 3 0 6 = 200; value 3 6 = 300");
        runs.each("promise 54: no such controller", WRITTEN, INDEX, "cache -1", "cache 2");
    }

    private static void sides(Runs runs) {
        runs.run("promises 26 and 27: a side breaks, what is stored then is marked there, and it is mended", WRITTEN,
            "breakSide 0 0 = 0; ofSide 0 0 0 = 0; ofSide 0 0 1 = 0; ofSide 0 0 2 = 0; ofSide 0 1 0 = 1",
            "ofSide 0 1 1 = 1; breakSide 0 0 = -9; breakSide 0 1 = -9; mend 0 1 = -9; drain 2 = 2; ofSide 0 0 2 = 3",
            "onSide 0 0 0 = 0; onSide 0 1 0 = 10; ofSide 0 1 2 = 0; value 0 0 = 10; mend 0 0 = 3; ofSide 0 0 0 = 1",
            "ofSide 0 0 1 = 0; mend 0 0 = -9; breakSide 0 1 = -9; drain 1 = 1; ofSide 0 0 2 = 7; onSide 0 0 2 = 0",
            "breakSide 0 0 = 7; mend 0 0 = 7; breakSide 1 0 = 0; breakSide 2 1 = 0; house 9 = 5");
        runs.run("promise 26: the second side may break, and the first one is read", WRITTEN,
            "breakSide 0 1 = 0; breakSide 0 0 = -9; drain 32 = 4; onSide 0 0 3 = 13; onSide 0 1 3 = 0",
            "ofSide 0 1 2 = 15; value 0 3 = 13; mend 0 1 = 15; step 0 1 8 = 0; breakSide 0 0 = 0; value 0 3 = 13");
    }

    private static void steps(Runs runs) {
        runs.run("promise 28: the first marked blocks get what the other side has", WRITTEN,
            "write 0 0 0 6 1 60; tick 4; breakSide 0 0; drain 32 = 5; mend 0 0 = 79; step 0 0 2 = 3",
            "onSide 0 0 0 = 10; onSide 0 0 1 = 11; onSide 0 0 2 = 0; ofSide 0 0 2 = 76; ofSide 0 0 1 = 0",
            "value 0 2 = 12; write 0 0 0 0 1 99; tick 4; drain 1 = 1; ofSide 0 0 2 = 77; onSide 0 0 0 = 10",
            "step 0 0 3 = 1; onSide 0 0 0 = 99; onSide 0 0 3 = 13; onSide 0 0 6 = 0; ofSide 0 0 1 = 0; step 0 0 1 = 0",
            "ofSide 0 0 1 = 1; ofSide 0 0 2 = 0; onSide 0 0 6 = 60; step 0 0 1 = -9; breakSide 0 1 = 0",
            "values 0 = 99 11 12 13 0 0 60 0");
        runs.run("promise 28: without marks it is in step at once, and one that is not fit is refused",
            "breakSide 2 1 = 0; step 2 1 8 = -9; mend 2 1 = 0; ofSide 2 1 1 = 0; step 2 1 1 = 0; ofSide 2 1 1 = 1",
            "step 2 1 1 = -9; step 2 0 1 = -9; house 9 = 3");
        runs.run("promise 28: marks are those since it was in step last", WRITTEN,
            "breakSide 0 1; drain 1 = 1; mend 0 1 = 1; step 0 1 1 = 0; drain 1 = 1; onSide 0 1 1 = 11",
            "breakSide 0 1 = 0; drain 1 = 1; ofSide 0 1 2 = 4; mend 0 1 = 4; write 0 0 0 2 1 5; tick 4; drain 32 = 2",
            "ofSide 0 1 2 = 12; step 0 1 8 = 0; onSide 0 1 2 = 5; onSide 0 1 3 = 13");
    }

    private static void copies(Runs runs) {
        runs.run("promises 29 and 53: a copy tells what was read as it was made", WRITTEN,
            "copied 0 0 0 = -1; copy 0 0 = 0; ofVolume 0 2 = 1; copied 0 0 0 = 10; copied 0 0 7 = 0",
            "copied 0 1 0 = -1; write 0 0 0 0 2 50; tick 5; copied 0 0 0 = 10; copied 0 0 1 = 11; value 0 1 = 51",
            "copy 0 1 = 0; ofVolume 0 2 = 3; copied 0 1 0 = 50; drain 32; write 0 0 0 0 1 70; tick 4",
            "copied 0 0 0 = 10; copied 0 1 0 = 50; copied 0 1 1 = 51; copy 0 0 = 1; copied 0 0 0 = 70",
            "copied 0 1 0 = 50; ofVolume 1 2 = 0; copied 1 0 0 = -1; crash 0; crash 1; copy 0 0 = 1",
            "copied 0 0 1 = 51; copy 3 1 = 0; ofVolume 3 2 = 2");
        runs.run("promise 53: a copy outlasts sides that break and come back", WRITTEN,
            "copy 0 0; breakSide 0 0; drain 32; crash 1; write 0 0 0 0 4 80; tick 7; copied 0 0 3 = 13",
            "value 0 3 = 83; mend 0 0; step 0 0 8 = 0; breakSide 0 1 = 0; copied 0 0 3 = 13; copied 0 0 5 = 0",
            "onSide 0 0 3 = 83");
    }

    private static void reverts(Runs runs) {
        runs.run("promise 30: block by block what the copy tells is written, and all hosts have attention", WRITTEN,
            "copy 0 0; write 0 0 0 2 3 50; tick 6; drain 32 = 5; revert 0 0 = 3; values 0 = 10 11 12 13 0 0 0 0",
            "ofVolume 0 1 = 15; ofVolume 0 3 = 8; cache 0 = 0.0=10 0.1=11 0.2=12 0.3=13 0.4=0 0.5=0 0.6=0 0.7=0",
            "onSide 0 0 2 = 50; revert 0 0 = 0; read 0 1 0 0 1 = 3; tick 3; told 0 1 = check; revert 0 1 = -9",
            "revert 1 0 = -9; house 9 = 2");
        runs.run("promise 30: the other copy gets what was read, and that is told afterwards", WRITTEN,
            "copy 0 0; write 0 0 0 0 1 99; tick 4; copy 0 1; revert 0 0 = 1; value 0 0 = 10; copied 0 1 0 = 99",
            "revert 0 1 = 1; value 0 0 = 99; copied 0 0 0 = 10; forget 0 1 = 8; forget 0 0 = 8");
        runs.run("promise 30: refused while it is reserved, or no controller is up; with one it is stored", WRITTEN,
            "copy 0 0; control 0 0 0 2; tick 3; revert 0 0 = -9; ofVolume 0 1 = 0; control 0 0 0 3; tick 3",
            "write 0 0 0 0 1 5; tick 4; crash 0; revert 0 0 = 1; cache 1 =; onSide 0 1 0 = 10; crash 1",
            "revert 0 0 = -9; ofVolume 0 1 = 15; restart 0; revert 0 0 = 0; house 9 = 2");
    }

    private static void forgets(Runs runs) {
        runs.run("promise 31: a copy goes, with the blocks that it kept itself", WRITTEN,
            "forget 0 0 = -9; copy 0 0; copy 0 1; write 0 0 0 1 2 5; tick 5; write 0 0 0 2 2 5; tick 5",
            "forget 0 0 = 3; copied 0 0 0 = -1; ofVolume 0 2 = 2; forget 0 0 = -9; write 0 0 0 7 1 5; tick 4",
            "forget 0 1 = 4; copy 0 1 = 0; forget 0 1 = 0; house 9 = 2; copy 0 0 = 0; write 0 0 0 0 1 10; tick 4",
            "forget 0 0 = 1");
        runs.run("promise 31: one made anew has kept nothing",
            WRITTEN, "copy 0 0; write 0 0 0 1 4 5; tick 7; copy 0 0 = 1; write 0 0 0 7 1 5; tick 4; forget 0 0 = 1");
    }

    private static void values(Runs runs) {
        runs.run("promises 49 to 51: what is read, and what each side has", WRITTEN,
            "value 0 0 = 10; value 0 3 = 13; value 0 4 = 0; value 1 0 = 0; values 0 = 10 11 12 13 0 0 0 0",
            "onSide 0 0 0 = 0; breakSide 0 0; drain 1; onSide 0 0 0 = 0; onSide 0 1 0 = 10; value 0 0 = 10; crash 0",
            "value 0 1 = 11; crash 1; values 0 = 10 11 12 13 0 0 0 0; onSide 0 0 3 = 0; onSide 0 1 3 = 13; restart 1",
            "value 0 3 = 13; mend 0 0; value 0 3 = 13; step 0 0 8; value 0 3 = 13; onSide 0 0 3 = 13");
    }

    private static void questions(Runs runs) {
        runs.run("promises 52, 55 and 56: sides, volumes, controllers", WRITTEN,
            "ofSide 0 0 0 = 1; ofSide 0 1 1 = 1; ofSide 0 1 2 = 0; ofVolume 0 0 = -1; ofVolume 0 1 = 0",
            "ofVolume 0 2 = 0; ofVolume 0 3 = 4; ofVolume 0 4 = 0; ofVolume 1 4 = 1; ofVolume 2 4 = 0",
            "ofVolume 3 4 = 1; ofVolume 0 5 = 0; deny 2 0 true; deny 3 0 true; ofVolume 0 5 = 12; copy 0 1",
            "ofVolume 0 2 = 2; control 0 0 0 2; tick 3; ofVolume 0 0 = 0; control 0 0 0 5; tick 3; ofVolume 0 0 = -1",
            "ofVolume 0 1 = 14; isUp 0 = true; isUp 1 = true; crash 1; isUp 1 = false; ofVolume 0 3 = 0",
            "ofVolume 0 1 = 14; ofVolume 0 5 = 12");
    }

    private static void wrongCalls(Runs runs) {
        runs.each("promises 26 to 31: no such volume, side or copy", WRITTEN, INDEX, "breakSide -1 0", "breakSide 4 0",
            "breakSide 0 -1", "breakSide 0 2", "mend -1 0", "mend 4 0", "mend 0 -1", "mend 0 2", "step -1 0 1",
            "step 4 0 1", "step 0 -1 1", "step 0 2 1", "step 4 0 0", "step 0 2 9", "copy -1 0", "copy 4 0", "copy 0 -1",
            "copy 0 2", "revert -1 0", "revert 4 0", "revert 0 -1", "revert 0 2", "forget -1 0", "forget 4 0",
            "forget 0 -1", "forget 0 2", "forget 2147483647 0");
        runs.each("promise 28: not 1 to 8 blocks, also where it would be refused", WRITTEN
                + "; breakSide 1 0; mend 1 0", ARGUMENT, "step 0 0 0", "step 1 0 0", "step 1 0 9", "step 1 0 -1",
            "step 1 0 2147483647");
        runs.each("promises 49 to 56: no such volume, side, copy, block or controller", WRITTEN, INDEX, "value -1 0",
            "value 4 0", "value 0 -1", "value 0 8", "values -1", "values 4", "onSide -1 0 0", "onSide 4 0 0",
            "onSide 0 -1 0", "onSide 0 2 0", "onSide 0 0 -1", "onSide 0 0 8", "ofSide -1 0 0", "ofSide 4 0 0",
            "ofSide 0 -1 0", "ofSide 0 2 0", "ofSide 4 0 3", "ofSide 0 2 -1", "copied -1 0 0", "copied 4 0 0",
            "copied 0 -1 0", "copied 0 2 0", "copied 0 0 -1", "copied 0 0 8", "ofVolume -1 0", "ofVolume 4 0",
            "ofVolume 4 6", "ofVolume -1 -1", "isUp -1", "isUp 2");
        runs.each("promises 52 and 55: a wrong question", WRITTEN, ARGUMENT,
            "ofSide 0 0 -1", "ofSide 3 1 3", "ofVolume 0 -1", "ofVolume 3 6");
    }
}
