/** Section 3 and promises 23 to 31 and 49 to 56, sentence by sentence: controllers, caches, sides, marks, copies. */
final class EdgesOfArray {
    /** Host 0 and the ports 4 and 5 at one switch. */
    private static final String HOUSE =
        "attach 0 0; attach 4 0; attach 5 0; zone 0 0 true; zone 0 4 true; zone 0 5 true;"
            + "login 0; login 4; login 5;";
    /** VOLUME 0 has 10 to 13 in its first blocks, in the caches alone. */
    private static final String WRITTEN = HOUSE + "write 0 0 0 0 4 10; tick 7;";
    /** All blocks of all volumes are in the caches, 32 of them: v.b has the value 10 * v + b. */
    private static final String FULL = HOUSE
            + "write 0 0 0 0 4 0; tick 7; write 0 0 0 4 4 4; tick 7; write 0 0 1 0 4 10; tick 7;"
            + "write 0 0 1 4 4 14; tick 7; write 0 0 2 0 4 20; tick 7; write 0 0 2 4 4 24; tick 7; write 0 0 3 0 4 30;"
            + " tick 7;" + "write 0 0 3 4 4 34; tick 7;";

    private EdgesOfArray() {
    }

    static void all(Sentences s) {
        atFirst(s);
        caches(s);
        stores(s);
        writes(s);
        reads(s);
        drains(s);
        falls(s);
        sides(s);
        steps(s);
        copies(s);
        reverts(s);
        bothDown(s);
        controllerCalls(s);
        sideCalls(s);
        copyCalls(s);
        questions(s);
    }

    private static String by(int promise) {
        return "promise " + promise + " by section 3";
    }

    private static void atFirst(Sentences s) {
        s.holds(by(1), "VOLUMES 0 to 3 have BLOCKS 0 to 7 with VALUES (0 to 999; 0 at first).", HOUSE,
            "values 0 = 0 0 0 0 0 0 0 0; values 3 = 0 0 0 0 0 0 0 0; write 0 0 3 7 1 999; tick 4; value 3 7 = 999",
            "write 0 0 0 0 1 0; tick 4; value 0 0 = 0; values 3 = 0 0 0 0 0 0 0 999");
        s.holds(by(1), "CONTROLLERS 0 and 1 are UP or DOWN (UP at first), each with a CACHE",
            "isUp 0 = true; isUp 1 = true; cache 0 =; cache 1 =; crash 0; isUp 0 = false; isUp 1 = true; crash 1",
            "isUp 1 = false; restart 0; isUp 0 = true; isUp 1 = false");
        s.holds(by(1), "At first both are FIT and IN STEP.",
            "ofSide 0 0 0 = 1; ofSide 0 0 1 = 1; ofSide 0 0 2 = 0; ofSide 0 1 0 = 1; ofSide 0 1 1 = 1",
            "ofSide 3 0 0 = 1; ofSide 3 0 1 = 1; ofSide 3 1 0 = 1; ofSide 3 1 1 = 1; ofSide 3 1 2 = 0",
            "onSide 0 0 0 = 0; onSide 3 1 7 = 0");
        s.holds(by(1),
            "Each VOLUME has two SIDES, each FIT or BROKEN, and IN STEP or not; each SIDE has VALUES of its own "
                + "and MARKS at some" + " BLOCKS.", WRITTEN,
            "breakSide 0 0; drain 1; onSide 0 0 0 = 0; onSide 0 1 0 = 10; ofSide 0 0 2 = 1; ofSide 0 1 2 = 0",
            "mend 0 0; ofSide 0 0 0 = 1; ofSide 0 0 1 = 0; ofSide 0 1 1 = 1; ofSide 1 0 0 = 1; ofSide 1 0 1 = 1");
    }

    private static void caches(Sentences s) {
        s.holds(by(54), "VALUES of some BLOCKS, the one that came first ahead", HOUSE,
            "write 0 0 3 7 1 5; tick 4; cache 0 = 3.7=5; write 0 0 0 0 2 998; tick 5; cache 0 = 3.7=5 0.0=998 0.1=999",
            "write 0 0 2 4 1 0; tick 4; cache 0 = 3.7=5 0.0=998 0.1=999 2.4=0; cache 1 = 3.7=5 0.0=998 0.1=999 2.4=0");
        s.holds(by(54), "(a BLOCK that comes again keeps its place)", WRITTEN,
            "write 0 0 0 0 1 50; tick 4; cache 0 = 0.0=50 0.1=11 0.2=12 0.3=13; write 0 0 0 3 2 60; tick 5",
            "cache 0 = 0.0=50 0.1=11 0.2=12 0.3=60 0.4=61; write 0 0 0 1 1 11; tick 4",
            "cache 1 = 0.0=50 0.1=11 0.2=12 0.3=60 0.4=61");
        s.holds(by(54), "(a BLOCK that comes again keeps its place)", WRITTEN,
            "drain 1; write 0 0 0 0 1 50; tick 4; cache 0 = 0.1=11 0.2=12 0.3=13 0.0=50",
            "cache 1 = 0.1=11 0.2=12 0.3=13 0.0=50");
        s.holds(by(54), "VALUES of some BLOCKS", FULL,
            "ofVolume 0 3 = 8; ofVolume 1 3 = 8; ofVolume 2 3 = 8; ofVolume 3 3 = 8",
            "values 3 = 30 31 32 33 34 35 36 37; onSide 3 0 7 = 0; write 0 0 3 7 1 999; tick 4; value 3 7 = 999",
            "write 0 0 0 0 1 999; tick 4; value 0 0 = 999; ofVolume 0 3 = 8; onSide 0 0 0 = 0; drain 32 = 32",
            "cache 0 =; onSide 0 0 0 = 999; onSide 3 1 7 = 999; onSide 3 1 6 = 36; drain 32 = 0");
    }

    private static void stores(Sentences s) {
        s.holds(by(25), "To STORE a BLOCK: it is written to all SIDES of its VOLUME that are FIT and IN STEP", WRITTEN,
            "drain 1; onSide 0 0 0 = 10; onSide 0 1 0 = 10; onSide 0 0 1 = 0; onSide 0 1 1 = 0; onSide 1 0 0 = 0",
            "ofSide 0 0 2 = 0; ofSide 0 1 2 = 0; breakSide 0 1; drain 1; onSide 0 0 1 = 11; onSide 0 1 1 = 0",
            "mend 0 1; drain 1; onSide 0 0 2 = 12; onSide 0 1 2 = 0");
        s.holds(by(25), "at each other SIDE it is MARKED", WRITTEN,
            "breakSide 0 0; drain 1; ofSide 0 0 2 = 1; ofSide 0 1 2 = 0; mend 0 0; drain 2; ofSide 0 0 2 = 7",
            "ofSide 0 1 2 = 0; write 0 0 0 7 1 5; tick 4; ofSide 0 0 2 = 7; drain 32; ofSide 0 0 2 = 143",
            "onSide 0 0 7 = 0");
        s.holds(by(25), "at each other SIDE it is MARKED", HOUSE,
            "breakSide 0 1; crash 1; write 0 0 0 0 4 1; tick 7; write 0 0 0 4 4 5; tick 7; ofSide 0 1 2 = 255",
            "write 0 0 0 0 1 9; tick 4; ofSide 0 1 2 = 255; ofSide 0 0 2 = 0; onSide 0 0 0 = 9; onSide 0 1 0 = 0");
    }

    private static void writes(Sentences s) {
        s.holds(by(12),
            "To WRITE a BLOCK: first, if a COPY of the VOLUME has nothing of that BLOCK yet, it gets what is "
                + "READ there", WRITTEN,
            "copy 0 0; copy 0 1; write 0 0 0 0 1 50; tick 4; copied 0 0 0 = 10; copied 0 1 0 = 10; write 0 0 0 0 1 60",
            "tick 4; copied 0 0 0 = 10; copied 0 1 0 = 10; value 0 0 = 60; copy 0 1 = 1; write 0 0 0 0 1 70; tick 4",
            "copied 0 0 0 = 10; copied 0 1 0 = 60; forget 0 0 = 1; forget 0 1 = 1");
        s.holds(by(12), "if a COPY of the VOLUME has nothing of that BLOCK yet", WRITTEN,
            "copy 0 0; write 0 0 0 0 1 10; tick 4; forget 0 0 = 1; copy 0 0; write 0 0 1 0 1 10; tick 4",
            "forget 0 0 = 0");
        s.holds(by(12), "with both CONTROLLERS UP, it comes into both CACHES",
            HOUSE, "write 0 0 1 3 1 7; tick 4; cache 0 = 1.3=7; cache 1 = 1.3=7; onSide 1 0 3 = 0; onSide 1 1 3 = 0");
        s.holds(by(12), "with one it is STORED", HOUSE,
            "crash 0; write 0 0 1 3 1 7; tick 4; told 0 0 = good; cache 0 =; cache 1 =; onSide 1 0 3 = 7",
            "onSide 1 1 3 = 7; restart 0; login 4; crash 1; write 0 0 1 3 1 8; tick 4; cache 0 =; onSide 1 1 3 = 8",
            "value 1 3 = 8");
    }

    private static void reads(Sentences s) {
        s.holds(by(49),
            "To READ a BLOCK: what is in the CACHE of the CONTROLLER; otherwise what the first SIDE has that is "
                + "FIT and IN STEP.", WRITTEN,
            "value 0 0 = 10; onSide 0 0 0 = 0; drain 2; value 0 0 = 10; read 0 0 0 0 4; tick 7",
            "told 0 0 = good 10 11 12 13; read 0 0 0 3 2; tick 5; told 0 0 = good 13 0");
        s.holds(by(49), "otherwise what the first SIDE has that is FIT and IN STEP", WRITTEN,
            "breakSide 0 0; drain 32; onSide 0 0 0 = 0; value 0 0 = 10; read 0 0 0 0 1; tick 4; told 0 0 = good 10",
            "mend 0 0; value 0 0 = 10; read 0 0 0 0 1; tick 4; told 0 0 = good 10; step 0 0 8; breakSide 0 1",
            "value 0 0 = 10");
    }

    private static void drains(Sentences s) {
        s.holds(by(25),
            "To DRAIN some: that many BLOCKS of the CACHE of the CONTROLLER 0, the first ones, are STORED, and "
                + "go out of both CACHES.", WRITTEN,
            "drain 1 = 1; cache 0 = 0.1=11 0.2=12 0.3=13; cache 1 = 0.1=11 0.2=12 0.3=13; onSide 0 0 0 = 10",
            "onSide 0 1 1 = 0; drain 3 = 3; cache 0 =; cache 1 =; onSide 0 0 3 = 13; drain 1 = 0; drain 32 = 0");
        s.holds("promise 25", "Returns how many were STORED.", "drain 1 = 0; drain 32 = 0;" + WRITTEN,
            "drain 3 = 3; drain 32 = 1; drain 32 = 0; crash 0; drain 1 = 0; house 9 = 0");
        s.holds("promise 25", "Returns how many were STORED.", FULL,
            "drain 31 = 31; cache 0 = 3.7=37; drain 32 = 1; cache 1 =; values 1 = 10 11 12 13 14 15 16 17",
            "onSide 3 1 7 = 37");
        s.holds("promise 25", "Returns how many were STORED.", FULL,
            "drain 32 = 32; cache 0 =; cache 1 =; onSide 0 0 7 = 7; house 9 = 0");
    }

    private static void falls(Sentences s) {
        s.holds(by(23),
            "If a CONTROLLER falls: all that is in its CACHE is STORED by the other one, if that is UP, and "
                + "both CACHES are empty", WRITTEN,
            "crash 1 = 4; cache 0 =; cache 1 =; onSide 0 0 3 = 13; onSide 0 1 3 = 13; restart 1; write 0 0 0 0 1 5",
            "tick 4; cache 1 = 0.0=5; crash 0 = 1; cache 0 =; cache 1 =; onSide 0 0 0 = 5; crash 1 = 0");
        s.holds(by(23), "all that is in its CACHE is STORED by the other one", FULL,
            "crash 0 = 32; onSide 0 0 7 = 7; onSide 3 1 7 = 37; cache 1 =");
        s.holds(by(24), "one that comes back has the CACHE empty, too", WRITTEN,
            "crash 0; restart 0 = 2; cache 0 =; cache 1 =; values 0 = 10 11 12 13 0 0 0 0; crash 1; crash 0",
            "restart 1; cache 1 =; restart 0; cache 0 =; write 0 0 0 0 1 5 = -9; login 5; write 0 0 0 0 1 5; tick 4",
            "cache 0 = 0.0=5; cache 1 = 0.0=5");
    }

    private static void sides(Sentences s) {
        s.holds(by(26), "A SIDE that breaks is not FIT, and not IN STEP; one that is mended is FIT.",
            "breakSide 2 0; ofSide 2 0 0 = 0; ofSide 2 0 1 = 0; ofSide 2 1 0 = 1; ofSide 2 1 1 = 1; mend 2 0",
            "ofSide 2 0 0 = 1; ofSide 2 0 1 = 0; breakSide 2 0; ofSide 2 0 0 = 0; ofSide 2 0 1 = 0; ofSide 1 0 0 = 1");
        s.holds(by(26), "A SIDE that breaks is not FIT, and not IN STEP", WRITTEN,
            "breakSide 0 0; drain 1; mend 0 0; drain 1; breakSide 0 0 = 3; drain 1; ofSide 0 0 2 = 7",
            "onSide 0 0 0 = 0; mend 0 0 = 7");
    }

    private static void steps(Sentences s) {
        String broken = WRITTEN + "write 0 0 0 7 1 70; tick 4; breakSide 0 0; drain 32; mend 0 0;";
        s.holds(by(28),
            "To bring it into step: its first MARKED BLOCKS get what the other SIDE has, and lose their MARKS", broken,
            "ofSide 0 0 2 = 143; step 0 0 1 = 4; onSide 0 0 0 = 10; onSide 0 0 1 = 0; ofSide 0 0 2 = 142",
            "step 0 0 3 = 1; onSide 0 0 3 = 13; onSide 0 0 7 = 0; ofSide 0 0 2 = 128; ofSide 0 0 1 = 0",
            "step 0 0 1 = 0; onSide 0 0 7 = 70; ofSide 0 0 2 = 0");
        s.holds(by(28), "behind that without MARKS (also if it had none) it is IN STEP", broken,
            "step 0 0 4 = 1; ofSide 0 0 1 = 0; step 0 0 8 = 0; ofSide 0 0 1 = 1; breakSide 3 1; mend 3 1",
            "ofSide 3 1 1 = 0; step 3 1 1 = 0; ofSide 3 1 1 = 1; breakSide 3 0 = 0");
        s.holds(by(28), "behind that without MARKS (also if it had none) it is IN STEP", broken,
            "step 0 0 5 = 0; ofSide 0 0 1 = 1; write 0 0 0 0 1 5; tick 4; drain 1; onSide 0 0 0 = 5; ofSide 0 0 2 = 0");
        s.holds(by(28), "(MARKS are of BLOCKS alone that were STORED since it was IN STEP last.)", broken,
            "step 0 0 8; breakSide 0 0 = 0; write 0 0 0 1 1 5; tick 4; ofSide 0 0 2 = 0; drain 1; ofSide 0 0 2 = 2",
            "mend 0 0 = 2; step 0 0 8 = 0; onSide 0 0 1 = 5; breakSide 0 1 = 0; mend 0 1 = 0");
        s.holds(by(28), "its first MARKED BLOCKS get what the other SIDE has", broken,
            "step 0 0 2; write 0 0 0 0 1 99; tick 4; drain 1; ofSide 0 0 2 = 141; onSide 0 0 0 = 10; step 0 0 1 = 3",
            "onSide 0 0 0 = 99; onSide 0 0 2 = 0; step 0 0 2 = 1; onSide 0 0 3 = 13");
    }

    private static void copies(Sentences s) {
        s.holds(by(29), "COPIES 0 and 1 of a VOLUME (not there at first): what was READ as it was made.", WRITTEN,
            "ofVolume 0 2 = 0; copied 0 0 0 = -1; copied 0 1 7 = -1; copy 0 1; ofVolume 0 2 = 2; copied 0 1 0 = 10",
            "copied 0 1 3 = 13; copied 0 1 4 = 0; copied 0 0 0 = -1; write 0 0 0 0 4 50; tick 7; drain 32",
            "copied 0 1 0 = 10; copied 0 1 3 = 13; copy 0 0; ofVolume 0 2 = 3; copied 0 0 3 = 53; copied 0 1 3 = 13",
            "ofVolume 1 2 = 0; write 0 0 0 0 4 1; tick 7; copied 0 0 0 = 50");
        s.holds(by(29), "what was READ as it was made", WRITTEN,
            "copy 0 0; breakSide 0 1; drain 32; crash 0; write 0 0 0 0 4 80; tick 7; mend 0 1; step 0 1 8",
            "breakSide 0 0; crash 1; copied 0 0 0 = 10; copied 0 0 3 = 13; copied 0 0 4 = 0; value 0 3 = 83");
    }

    private static void reverts(Sentences s) {
        s.holds(by(30),
            "A VOLUME is REVERTED to a COPY: BLOCK by BLOCK what that tells is written (WRITE; also where it is "
                + "the same)", WRITTEN, "copy 0 0; drain 32; cache 0 =; write 0 0 0 3 1 50; tick 4; revert 0 0 = 1",
            "cache 0 = 0.3=13 0.0=10 0.1=11 0.2=12 0.4=0 0.5=0 0.6=0 0.7=0; onSide 0 0 3 = 13; ofVolume 0 3 = 8",
            "drain 32 = 8");
        s.holds(by(30), "is written (WRITE; also where it is the same)",
            WRITTEN, "copy 0 0; copy 0 1; revert 0 0 = 0; forget 0 1 = 8; forget 0 0 = 8; ofVolume 0 3 = 8");
        s.holds(by(30), "is written (WRITE; also where it is the same)", WRITTEN,
            "copy 0 0; breakSide 0 1; crash 1; ofSide 0 1 2 = 15; revert 0 0 = 0; ofSide 0 1 2 = 255; cache 0 =",
            "ofVolume 0 3 = 0");
        s.holds(by(30), "and all HOSTS have ATTENTION of the VOLUME", HOUSE,
            "copy 2 1; ofVolume 2 1 = 0; revert 2 1 = 0; ofVolume 2 1 = 15; ofVolume 1 1 = 0; control 0 0 2 4; tick 3",
            "told 0 0 = check; ofVolume 2 1 = 14; revert 2 1; ofVolume 2 1 = 15");
    }

    private static void bothDown(Sentences s) {
        s.holds(by(49), "With both CONTROLLERS DOWN nothing is read of VOLUMES by COMMANDS (no PORT is LOGGED IN)",
            WRITTEN,
            "crash 0; crash 1; house 3 = 1; read 0 0 0 0 1 = -9; path 0 0 = -1; login 4 = -9; login 5 = -9; names 0 =");
        s.holds(by(49), "what is asked of a VALUE then is what the first SIDE has that is FIT and IN STEP", WRITTEN,
            "crash 1; crash 0; value 0 3 = 13; values 0 = 10 11 12 13 0 0 0 0; breakSide 0 0; value 0 3 = 13",
            "copy 0 0; copied 0 0 3 = 13");
        s.holds(by(49), "what the first SIDE has that is FIT and IN STEP", WRITTEN,
            "breakSide 0 0; crash 0; crash 1; onSide 0 0 0 = 0; value 0 0 = 10; mend 0 0; value 0 0 = 10",
            "values 0 = 10 11 12 13 0 0 0 0");
    }

    private static void controllerCalls(Sentences s) {
        s.holds("promise 23", "Returns how many BLOCKS were STORED by that.",
            WRITTEN, "drain 1; crash 0 = 3; crash 1 = 0; restart 0; restart 1; crash 0 = 0");
        s.holds("promise 24", "Returns how many CONTROLLERS are UP then.",
            "crash 0; restart 0 = 2; crash 0; crash 1; restart 1 = 1; restart 0 = 2; crash 1; crash 0; restart 0 = 1");
        s.holds("promise 24", "A CONTROLLER is UP again.", HOUSE,
            "crash 0; isUp 0 = false; restart 0; isUp 0 = true; address 4 = -1; house 3 = 2; notices 0 = 5 6 -5",
            "login 4 = 104");
        s.holds("promise 56", "Returns whether it is UP.",
            "isUp 0 = true; crash 0; isUp 0 = false; isUp 1 = true; restart 0; isUp 0 = true");
    }

    private static void sideCalls(Sentences s) {
        String out = "-9 if it is not FIT, or the other one is not FIT or not IN STEP.";
        String unlike = FULL
                + "leak 1 5 0; copy 0 0; write 0 0 0 0 1 9; tick 4; breakSide 0 0; breakSide 1 1; breakSide 2 0;"
                + " drain 20; mend 2 0;" + "breakSide 3 1; mend 3 1;";
        s.refused("promise 26", out, unlike, "breakSide 0 0", "breakSide 0 1", "breakSide 1 1", "breakSide 1 0",
            "breakSide 2 1", "breakSide 3 0");
        s.holds("promise 26", "Returns the set of its MARKS; " + out, WRITTEN,
            "breakSide 0 0 = 0; drain 2; mend 0 0; breakSide 0 0 = 3; mend 0 0; step 0 0 1; breakSide 0 0 = 2",
            "mend 0 0; step 0 0 8; breakSide 0 1 = 0; mend 0 1; step 0 1 1; breakSide 0 0 = 0; breakSide 3 1 = 0");
        s.holds("promise 27", "Returns the set of its MARKS; -9 if it is FIT.", FULL,
            "breakSide 0 0; mend 0 0 = 0; breakSide 0 0; drain 8; mend 0 0 = 255; breakSide 1 1; drain 1",
            "mend 1 1 = 1");
        s.refused("promise 27", "-9 if it is FIT.", unlike, "mend 0 1", "mend 1 0", "mend 2 0", "mend 2 1", "mend 3 1",
            "mend 3 0");
        s.holds("promise 28", "Returns how many MARKS are left", FULL,
            "breakSide 3 0; drain 32; mend 3 0 = 255; step 3 0 1 = 7; step 3 0 3 = 4; step 3 0 8 = 0; breakSide 2 1",
            "mend 2 1; step 2 1 8 = 0");
        s.refused("promise 28", "-9 if it is not FIT, or IN STEP.", unlike + "step 3 1 1", "step 0 0 1", "step 0 0 8",
            "step 0 1 8", "step 1 1 1", "step 1 0 1", "step 2 1 8", "step 3 1 1", "step 3 0 8");
        s.thrown("promise 28",
            "-9 if it is not FIT, or IN STEP. .. Throws IllegalArgumentException if many is not 1 to 8",
            Sentences.ARGUMENT, "breakSide 0 0", "step 0 0 0", "step 0 0 9", "step 0 1 0", "step 3 1 9");
        s.holds("promise 28", "A SIDE is brought into step, so many BLOCKS (of its MARKED ones, by numbers).", FULL,
            "breakSide 3 0; drain 32; mend 3 0; step 3 0 7 = 1; onSide 3 0 6 = 36; onSide 3 0 7 = 0",
            "ofSide 3 0 2 = 128; ofSide 3 0 1 = 0");
    }

    private static void copyCalls(Sentences s) {
        s.holds("promise 29", "Returns 1 if one was there, otherwise 0.",
            "copy 0 0 = 0; copy 0 0 = 1; copy 0 1 = 0; copy 3 1 = 0; copy 3 1 = 1; forget 3 1; copy 3 1 = 0",
            "copy 3 0 = 0");
        s.holds("promise 29", "A COPY is made (one that is there goes).", WRITTEN,
            "copy 0 0; write 0 0 0 0 2 50; tick 5; copied 0 0 0 = 10; copy 0 0 = 1; copied 0 0 0 = 50",
            "copied 0 0 1 = 51; forget 0 0 = 0");
        s.holds("promise 30", "Returns how many BLOCKS had another VALUE", WRITTEN,
            "copy 0 0; revert 0 0 = 0; control 0 0 0 4; tick 3; write 0 0 0 0 4 10; tick 7; revert 0 0 = 0",
            "control 0 0 0 4; tick 3; write 0 0 0 0 4 20; tick 7; write 0 0 0 4 4 20; tick 7; revert 0 0 = 8",
            "values 0 = 10 11 12 13 0 0 0 0");
        s.refused("promise 30", "-9 if there is no COPY, the VOLUME is RESERVED, or no CONTROLLER is UP.", WRITTEN
                + "leak 1 5 0; copy 0 0; copy 1 1; write 0 0 0 0 2 50; tick 5; control 0 0 1 2; tick 3;"
                + " write 0 0 1 0 2 9; tick 5", "revert 0 1", "revert 1 1", "revert 1 0", "revert 2 0", "revert 3 1");
        s.refused("promise 30", "or no CONTROLLER is UP.", WRITTEN
                + "copy 0 0; write 0 0 0 0 2 50; tick 5; crash 0; crash 1", "revert 0 0", "revert 0 1");
        s.holds("promise 30", "or no CONTROLLER is UP.", HOUSE,
            "copy 0 0; crash 0; write 0 0 0 0 2 5; tick 5; revert 0 0 = 2; onSide 0 0 0 = 0; crash 1; revert 0 0 = -9",
            "restart 1; revert 0 0 = 0; control 0 0 0 2 = -9; login 5; control 0 0 0 4; tick 3; control 0 0 0 2",
            "tick 3; revert 0 0 = -9; control 0 0 0 3; tick 3; revert 0 0 = 0");
        s.holds("promise 31", "Returns how many BLOCKS it kept itself", WRITTEN,
            "copy 0 0; forget 0 0 = 0; copy 0 0; write 0 0 0 0 1 5; tick 4; write 0 0 0 0 2 5; tick 5; forget 0 0 = 2",
            "copy 0 0; copy 0 1; write 0 0 0 0 4 5; tick 7; write 0 0 0 4 4 5; tick 7; forget 0 0 = 8",
            "ofVolume 0 2 = 2; copied 0 0 0 = -1; copied 0 1 7 = 0");
        s.refused("promise 31", "-9 if there is none.", WRITTEN
                + "leak 1 5 0; copy 0 0; copy 1 1; write 0 0 0 0 2 50; tick 5; write 0 0 1 0 1 5; tick 4; forget 1 1",
            "forget 0 1", "forget 1 1", "forget 1 0", "forget 3 0");
    }

    private static void questions(Sentences s) {
        s.holds("promise 49", "Returns its VALUE, as it is READ (by the CACHE of the smallest CONTROLLER that is UP).",
            WRITTEN, "value 0 0 = 10; value 0 7 = 0; crash 0; value 0 0 = 10; write 0 0 0 0 1 5; tick 4; value 0 0 = 5",
            "restart 0; login 4; write 0 0 0 0 1 6; tick 4; value 0 0 = 6; onSide 0 0 0 = 5");
        s.holds("promise 50", "Returns all its VALUES, with one blank between.", FULL,
            "values 0 = 0 1 2 3 4 5 6 7; values 3 = 30 31 32 33 34 35 36 37; drain 32",
            "values 3 = 30 31 32 33 34 35 36 37");
        s.holds("promise 51", "Returns what that SIDE has.", FULL,
            "onSide 3 1 7 = 0; drain 32; onSide 3 1 7 = 37; onSide 0 0 1 = 1; breakSide 3 1; write 0 0 3 7 1 5",
            "tick 4; drain 1; onSide 3 1 7 = 37; onSide 3 0 7 = 5");
        s.holds("promise 52", "Returns that.", FULL,
            "ofSide 3 1 0 = 1; ofSide 3 1 1 = 1; ofSide 3 1 2 = 0; breakSide 3 1; ofSide 3 1 0 = 0; ofSide 3 1 1 = 0",
            "drain 32; ofSide 3 1 2 = 255; mend 3 1; ofSide 3 1 0 = 1; ofSide 3 1 1 = 0; step 3 1 8; ofSide 3 1 1 = 1",
            "ofSide 3 1 2 = 0");
        s.holds("promise 53", "Returns what it tells; NONE without the COPY.", WRITTEN,
            "copied 0 0 0 = -1; copied 3 1 7 = -1; copy 0 0; copied 0 0 0 = 10; copied 0 0 7 = 0; copied 0 1 0 = -1",
            "forget 0 0; copied 0 0 0 = -1");
        s.holds("promise 54",
            "Returns its CACHE, in its sequence, each as VOLUME, \".\", BLOCK, \"=\" and VALUE, with one blank "
                + "between; \"\" without.", HOUSE,
            "cache 0 =; cache 1 =; write 0 0 3 7 1 999; tick 4; cache 0 = 3.7=999; write 0 0 0 0 1 0; tick 4",
            "cache 1 = 3.7=999 0.0=0; drain 32; cache 0 =; cache 1 =");
        s.holds("promise 55",
            "0 who holds it (NONE), 1 the set of HOSTS that have ATTENTION of it, 2 the set of its COPIES, 3 "
                + "how many BLOCKS of it are"
                + " in the CACHES, 4 its own CONTROLLER, 5 the set of HOSTS that are DENIED it", HOUSE,
            "attach 3 0; zone 0 3 true; login 3; ofVolume 3 0 = -1; control 3 0 3 2; tick 3; ofVolume 3 0 = 3",
            "control 0 0 3 5; tick 3; ofVolume 3 0 = -1; ofVolume 3 1 = 14; copy 3 0; copy 3 1; ofVolume 3 2 = 3",
            "ofVolume 3 3 = 0; write 0 0 3 0 4 1; tick 7; ofVolume 3 3 = 4; ofVolume 2 3 = 0; ofVolume 0 4 = 0",
            "ofVolume 1 4 = 1; ofVolume 2 4 = 0; ofVolume 3 4 = 1; ofVolume 3 5 = 0; deny 0 3 true; deny 1 3 true",
            "deny 2 3 true; deny 3 3 true; ofVolume 3 5 = 15; deny 0 3 false; ofVolume 3 5 = 14");
        s.holds("promise 55", "Returns that.",
            "ofVolume 0 0 = -1; ofVolume 0 1 = 0; ofVolume 0 2 = 0; ofVolume 0 3 = 0; ofVolume 0 5 = 0");
    }
}
