import java.lang.reflect.Method;
import java.lang.reflect.Modifier;
import java.util.ArrayList;
import java.util.List;
import java.util.Set;
import java.util.StringJoiner;
import java.util.TreeSet;

/** What the document says of all calls, promises 1, 32, 57 and 59, sentence by sentence, and the face itself. */
final class EdgesOfTheWhole {
    private static final String ALL =
        "attach 0 0; attach 1 0; attach 2 0; attach 3 0; attach 4 0; attach 5 0; attach 6 0;"
            + "attach 7 0; zone 0 0 true; zone 0 1 true; zone 0 2 true; zone 0 3 true; zone 0 4 true; zone 0 5 true;"
            + "zone 0 6 true; zone 0 7 true; login 0; login 1; login 2; login 3; login 4; login 5; login 6; login 7;";
    private static final String ONE = "attach 0 0; attach 4 0; zone 0 0 true; zone 0 4 true; login 0; login 4;";
    private static final String MESH = "link 0 1 1; link 0 2 1; link 0 3 1; link 1 2 1; link 1 3 1; link 2 3 1;";

    private EdgesOfTheWhole() {
    }

    static void all(Sentences s) {
        face(s);
        made(s);
        lastCalls(s);
        refusals(s);
        exceptions(s);
        numbers(s);
        knocks(s);
        houses(s);
        checksums(s);
        shortOnes(s);
    }

    private static void face(Sentences s) {
        Set<String> told = new TreeSet<>();
        Set<String> due = s.document().signatures();
        due.remove("Blockfabric()");
        for (Method method : Blockfabric.class.getDeclaredMethods()) {
            if (Modifier.isPublic(method.getModifiers())) {
                told.add(signature(method));
            }
        }
        if (s.document().isThere()) {
            String rule = "The constructor and the methods follow, a promise each: the signature, then what it does.";
            s.alike("section 4", rule, new ArrayList<>(told), new ArrayList<>(due));
        }
    }

    private static String signature(Method method) {
        StringJoiner types = new StringJoiner(", ", "(", ")");
        for (Class<?> type : method.getParameterTypes()) {
            types.add(type.getSimpleName());
        }
        StringJoiner thrown = new StringJoiner(", ", " throws ", "").setEmptyValue("");
        for (Class<?> type : method.getExceptionTypes()) {
            thrown.add(type.getSimpleName());
        }
        return method.getReturnType().getSimpleName() + " " + method.getName() + types + thrown;
    }

    private static void made(Sentences s) {
        s.holds("promise 1", "Creates four switches without links, nodes at none, and an array that is whole.",
            "house 0 = 4; house 1 = 4; house 2 = 0; house 3 = 0; cost 0 1 = -1; cost 2 3 = -1; at 0 = -1; at 7 = -1",
            "isUp 0 = true; isUp 1 = true; values 0 = 0 0 0 0 0 0 0 0; values 3 = 0 0 0 0 0 0 0 0; ofSide 0 0 0 = 1",
            "ofSide 3 1 1 = 1; cache 0 =; cache 1 =");
        s.holds("promise 1", "Creates four switches without links",
            "house 4 = 0; house 5 = 0; house 6 = 0; house 7 = 0; house 8 = 0; house 9 = 0; house 10 = 0; house 11 = 0",
            "house 12 = 0; house 13 = 0; told 0 0 = none; told 3 3 = none; notice 0 = 0; recover = 0; isSound = true",
            "row 0 =; queue 1 =; notices 7 =");
        s.checksum("promise 1", "Creates four switches", "");
    }

    /** The 512th call is answered as the first one would be; more are free. */
    private static void lastCalls(Sentences s) {
        String rule = "An object is used for at most 512 calls after it has been made";
        List<String> knocks = new ArrayList<>();
        for (int i = 0; i < 512; i++) {
            knocks.add("knock");
        }
        s.last("what it is", rule, knocks, "512");
        List<String> many = Runs.calls("attach 0 0; attach 1 0; attach 2 0; attach 3 0; attach 4 0; zone 0 0 true;"
            + "zone 0 1 true; zone 0 2 true; zone 0 3 true; zone 0 4 true; login 0; login 1; login 2; login 3;"
            + "login 4");
        while (many.size() < 512) {
            for (int i = 0; i < 16 && many.size() < 512; i++) {
                many.add("write " + i / 4 + " " + i % 4 + " 0 4 4 999");
            }
            if (many.size() < 511) {
                many.addAll(List.of("logout 4", "login 4"));
            }
        }
        s.last("what it is", rule, many, "443");
        String[] ends = {"house 4 = 442", "house 7 = 432", "house 5 = 10", "house 8 = 50", "isSound = true",
            "row 2 = 441>0 441>1 441>2 441>3 441>4 442>0 442>1 442>2 442>3 442>4", "ofExchange 442 2 = 1",
            "told 2 1 = open"};
        for (String last : ends) {
            many.set(511, last.substring(0, last.indexOf(" = ")));
            s.last("what it is", rule, many, last.substring(last.indexOf(" = ") + 3));
        }
        List<String> ticks = Runs.calls(ONE);
        while (ticks.size() < 511) {
            ticks.add(ticks.size() % 10 == 0 ? "read 0 0 0 0 4" : "tick 20");
        }
        s.checksum("what it is", rule, String.join(";", ticks));
    }

    private static void refusals(Sentences s) {
        s.holds("description",
            "-9 (REFUSED): a call that is let, but can not be done; nothing changes then but house() 9",
            "unlink 0 1 = -9; login 0 = -9; logout 0 = -9; read 0 0 0 0 1 = -9; write 0 0 0 0 1 0 = -9",
            "control 0 0 0 4 = -9; again 0 0 = -9; abort 0 0 = -9; spoil 0 0 0 = -9; leak 0 0 0 = -9; house 9 = 10",
            "mend 0 0 = -9; step 0 0 1 = -9; revert 0 0 = -9; forget 0 0 = -9; house 9 = 14; attach 0 0; login 0",
            "attach 0 1 = -9; breakSide 0 0; breakSide 0 1 = -9; house 9 = 16; notice 0 = 0; drain 1 = 0; recover = 0",
            "zone 0 0 false = 0; deny 0 0 false = 0; copied 0 0 0 = -1; way 0 1 = -1; house 9 = 16");
        s.holds("description", "(exceptions go ahead of it)", "attach 0 0; login 0; attach 0 4 = " + Sentences.ARGUMENT,
            "read 0 0 0 8 1 = " + Sentences.ARGUMENT, "read 0 0 4 0 1 = " + Sentences.INDEX, "write 0 0 0 0 1 1000 = "
                + Sentences.ARGUMENT, "control 0 0 0 7 = " + Sentences.ARGUMENT, "step 0 0 0 = " + Sentences.ARGUMENT,
            "step 0 0 9 = " + Sentences.ARGUMENT, "again 4 0 = " + Sentences.INDEX, "abort 0 4 = " + Sentences.INDEX,
            "house 9 = 0", "unlink 0 0 = " + Sentences.INDEX, "unlink 0 4 = " + Sentences.INDEX, "login 8 = "
                + Sentences.INDEX, "logout -1 = " + Sentences.INDEX, "spoil 0 8 0 = " + Sentences.ARGUMENT,
            "leak 2 0 4 = " + Sentences.ARGUMENT, "mend 0 2 = " + Sentences.INDEX, "house 9 = 0", "breakSide 4 0 = "
                + Sentences.INDEX, "revert 0 2 = " + Sentences.INDEX, "forget 4 0 = " + Sentences.INDEX, "house 9 = 0");
    }

    private static void exceptions(Sentences s) {
        String much = Runs.RICH + MESH + "fall 3";
        s.thrown("description", "A method that throws an exception changes nothing.", Sentences.INDEX, much,
            "link 0 0 3", "unlink 3 3", "fall 4", "rise -1", "priority 4 1", "attach 8 0", "login 8", "logout 8",
            "zone 4 0 true", "zone 0 8 false", "read 0 4 0 0 1", "write 4 0 0 0 1 1", "control 0 0 4 4", "again 0 4",
            "abort 4 0", "manner 4 false false", "deny 0 4 true", "notice 8", "crash 2", "restart 2", "breakSide 0 2",
            "mend 4 0", "step 0 2 1", "copy 0 2", "revert 4 0", "forget 0 2");
        s.thrown("description", "A method that throws an exception changes nothing.", Sentences.ARGUMENT, much,
            "link 0 1 10", "priority 0 10", "attach 0 4", "read 0 1 0 6 3", "write 0 1 0 0 1 1000", "control 0 1 0 1",
            "spoil 2 0 4", "leak 1 8 0", "tick 21", "tick 0", "drain 33", "drain 0", "step 1 0 9", "house 14");
        s.thrown("description", "A method that throws an exception changes nothing.", Sentences.STATE, much, "fall 3",
            "rise 0", "restart 1");
        s.thrown("description", "If several exceptions apply, the one that is named first is thrown.", Sentences.INDEX,
            much, "link 4 0 10", "link 0 0 0", "priority -1 0", "attach 8 4", "read 0 0 4 8 0", "write 0 4 0 0 5 1000",
            "control 4 0 0 7", "step 4 0 0", "step 0 2 9", "ofSwitch 4 7", "ofExchange 7 14", "ofExchange 0 -1",
            "ofSide 0 2 3", "ofVolume 4 6");
    }

    private static void numbers(Sentences s) {
        s.holds("description", "Whole numbers. NONE is -1.", "at 0 = -1; path 0 0 = -1; house 9 = 0");
        s.holds("description", "X by X is by rising numbers", ALL,
            "link 0 1 1; names 0 = 101 102 103 104 105 106 107; notices 7 = 1 2 3 4 5 6 7; control 3 0 0 4",
            "control 1 0 0 4; tick 1; buffer 1 4 0 = 2>0; buffer 0 3 0 = 1>0; tick 1; queue 0 =; ofExchange 2 9 = 1",
            "buffer 1 4 0 = 1>0");
    }

    private static void knocks(Sentences s) {
        s.holds("promise 32", "Knocks.", "knock = 1; knock = 2; house 9 = 2; login 0 = -9; knock = 4; login 8 = "
                + Sentences.INDEX, "knock = 5");
        s.holds("promise 32", "Returns house() of 9, with this.",
            "house 9 = 0; knock = 1; house 9 = 1; unlink 0 1 = -9; knock = 3; house 9 = 3");
    }

    private static void houses(Sentences s) {
        String rule = "Returns that.";
        s.holds("promise 57", "0 SWITCHES that are UP, 1 FABRICS, 2 LINKS, 3 NODES that are LOGGED IN",
            "house 0 = 4; house 1 = 4; house 2 = 0; house 3 = 0;" + ALL, "house 3 = 8;" + MESH,
            "house 1 = 1; house 2 = 6; fall 3; house 0 = 3; house 2 = 6; house 1 = 1; unlink 0 1; unlink 0 2",
            "house 2 = 4; house 1 = 2; fall 0; house 3 = 0; house 1 = 1; fall 1; fall 2; house 0 = 0; house 1 = 0",
            "house 2 = 4");
        s.holds("promise 57", "4 EXCHANGES ever, 5 those that are OPEN, 6 those that are DONE, 7 those that are LOST",
            ALL,
            "control 0 0 0 4; house 4 = 1; house 5 = 1; house 6 = 0; house 7 = 0; tick 3; house 4 = 1; house 5 = 0",
            "house 6 = 1; control 0 0 0 4; abort 0 0; control 0 0 0 4; control 0 1 0 4; house 4 = 4; house 5 = 2",
            "house 6 = 1; house 7 = 1; logout 0; house 5 = 0; house 7 = 3; house 4 = 4; read 0 0 0 0 1 = -9",
            "house 4 = 4");
        s.holds("promise 57", "8 FRAMES and ACKS in rows and BUFFERS", ONE,
            "house 8 = 0; manner 0 true false; write 0 0 0 0 4 1; house 8 = 5; tick 1; house 8 = 5; tick 1",
            "house 8 = 5; tick 1; house 8 = 4; tick 20; house 8 = 0; read 0 0 0 0 4; tick 2; house 8 = 6; abort 0 0",
            "house 8 = 0");
        s.holds("promise 57",
            "9 how often -9 was told, and how often one knocked, 10 TICKS ever, 11 FRAMES and ACKS that ever "
                + "crossed LINES", ONE,
            "house 9 = 0; knock; unlink 0 1 = -9; house 9 = 2; tick 20; tick 1; house 10 = 21; house 11 = 0",
            "control 0 0 0 4; tick 2; house 11 = 4; spoil 1 0 0 = 1; house 11 = 4; house 10 = 23; manner 0 true false",
            "control 0 1 0 4; tick 9; house 11 = 10; notice 0 = 5; notice 0 = 0; house 9 = 2");
        s.holds("promise 57", "12 CREDITS that are LEAKED, 13 COMMANDS in both QUEUES", Runs.BOTH_PORTS,
            "house 12 = 0; house 13 = 0; leak 0 1 0; leak 1 0 0; leak 1 0 0; link 0 1 1; leak 2 0 1; house 12 = 4",
            "unlink 0 1; house 12 = 3; recover; house 12 = 0; control 0 0 0 4; control 1 0 0 4; control 0 1 0 4",
            "control 1 1 0 4; control 0 2 0 4; tick 3; house 13 = 2; tick 1; house 13 = 2; tick 9; house 13 = 0");
        s.holds("promise 57", "13 COMMANDS in both QUEUES", Runs.BOTH_PORTS,
            "attach 2 0; attach 3 0; attach 5 0; attach 7 0; zone 2 2 true; zone 2 5 true; zone 3 3 true",
            "zone 3 7 true; login 2; login 3; login 5; login 7; control 0 0 0 4; control 1 0 0 4; control 2 0 0 4",
            "control 3 0 0 4; tick 2; house 13 = 2; queue 0 = 2; queue 1 = 4; crash 1; house 13 = 1");
        s.holds("promise 57", rule, "house 0 = 4; house 13 = 0");
    }

    private static void checksums(Sentences s) {
        String part = "promise 59";
        String pair = Runs.PAIR + ";";
        s.checksum(part, "Computes a checksum. A number d starts with 7660", "");
        s.checksum(part, "then d becomes d * 31 + v, which wraps around as a 64-bit integer, for each v in this order: "
                + "house() of 0 to 13", pair
                + "read 0 0 0 0 4; write 1 3 1 2 2 999; tick 3; knock; leak 0 0 0; control 0 1 0 4; abort 0 1; tick 1");
        s.checksum(part, "SWITCH by SWITCH ofSwitch() of 0 to 6, to each SWITCH way() and far()",
            "link 0 1 3; link 1 2 4; link 3 0 9; priority 2 1; fall 3; attach 7 3; attach 1 2");
        s.checksum(part,
            "NODE by NODE at(), address(), the lengths of names(), row() and notices(), credits() of the kinds "
                + "0 and 1, the lengths of" + " buffer() of both", pair
                + "manner 0 true false; leak 1 0 0; leak 1 5 0; write 0 0 0 0 4 7; read 1 0 1 0 4; tick 2; leak 0 1 0;"
                + " logout 1");
        s.checksum(part, "from SWITCH by SWITCH, to SWITCH by SWITCH (not the same) cost(), credits(), the length of "
                + "buffer()", pair
                + "leak 1 4 0; leak 1 4 0; link 2 3 7; leak 2 3 2; write 0 0 0 0 4 7; tick 4; leak 2 1 0");
        s.checksum(part, "ZONE by ZONE ofZone()", "zone 0 7 true; zone 1 0 true; zone 1 3 true; zone 3 4 true");
        s.checksum(part, "HOST by HOST first VOLUME by VOLUME path(), then TAG by TAG the length of told()", pair
                + "write 0 0 1 0 4 997; tick 9; read 0 1 1 0 4; read 1 3 0 0 2; read 1 0 0 0 1; tick 9;"
                + " zone 0 5 false");
        s.checksum(part, "EXCHANGE by EXCHANGE ofExchange() of 0 to 13", pair
                + "manner 0 true true; write 0 0 0 0 4 7; tick 9; read 0 1 1 5 3; leak 1 0 0; leak 1 0 0; tick 5;"
                + " control 1 2 3 2; abort 1 2");
        s.checksum(part, "VOLUME by VOLUME first ofVolume() of 0 to 5, then BLOCK by BLOCK value(), onSide() of both, "
                + "copied() of both, then SIDE by" + " SIDE ofSide() of 0 to 2", pair
                + "write 0 0 0 0 4 7; tick 9; breakSide 0 0; drain 2; write 0 0 2 4 4 9; tick 9; copy 2 0;"
                + "breakSide 2 1; crash 0; write 0 0 2 5 1 800; tick 9; mend 0 0; copy 0 1; revert 2 0;"
                + " control 0 0 1 2; tick 9; deny 3 2 true");
        s.checksum(part, "the lengths of cache() of both, then of queue() of both", Runs.BOTH_PORTS
                + "; write 0 0 0 0 4 98; tick 9; drain 1; control 0 0 0 4; control 1 0 0 4; control 0 1 0 4;"
                + " control 1 1 0 4; tick 3");
        s.checksum(part, "1 if isSound(), otherwise 0.", pair + "tick 20; knock; copy 3 1");
        s.holds(part, "Returns d.", pair
                + "write 0 0 0 0 4 7; tick 3; digest; digest; house 9 = 0; tick 1; digest; told 0 0 = open");
    }

    /** Sentences that name no case; each has a run in which it shows. */
    private static void shortOnes(Sentences s) {
        s.holds("promise 3", "A LINK goes.",
            "link 0 1 1; unlink 0 1 = 1; house 2 = 0; cost 0 1 = -1; far 0 1 = -1; credits 2 0 1 = -1");
        s.holds("promise 6", "Tells a PRIORITY.",
            "priority 0 9 = 0; ofSwitch 0 1 = 9; priority 0 1 = 0; ofSwitch 0 1 = 1; ofSwitch 1 1 = 5");
        s.holds("promise 8", "A NODE LOGS IN.", "attach 0 0; login 0 = 100; address 0 = 100; house 3 = 1");
        s.holds("promise 9", "A NODE LOGS OUT.",
            "attach 0 0; login 0; logout 0 = 0; address 0 = -1; at 0 = 0; house 3 = 0; login 0 = 100");
        s.holds("promise 10", "A NODE comes into a ZONE, or goes out of it.",
            "zone 2 5 true = 1; ofZone 2 = 32; zone 2 5 true = 1; zone 2 5 false = 0; ofZone 2 = 0",
            "zone 2 5 false = 0");
        s.holds("promise 11", "READ.", ONE, "read 0 0 0 0 1 = 1; ofExchange 1 3 = 0; tick 4; told 0 0 = good 0");
        s.holds("promise 12", "WRITE.", ONE,
            "write 0 0 0 0 1 5 = 1; ofExchange 1 3 = 1; tick 4; told 0 0 = good; value 0 0 = 5");
        s.holds("promise 13", "Another COMMAND.", ONE,
            "control 0 0 0 2 = 1; control 0 1 0 6 = 2; ofExchange 1 3 = 2; ofExchange 2 3 = 6");
        s.holds("promise 17", "A HOST is DENIED a VOLUME, or not.",
            "deny 3 0 true = 0; ofVolume 0 5 = 8; deny 3 0 false = 1; ofVolume 0 5 = 0");
        s.holds("promise 18", "The oldest FRAME (or ACK) in the BUFFER of a LINE is SPOILED: it is DROPPED.", ONE,
            "leak 1 4 0; leak 1 4 0; write 0 0 0 0 4 1; tick 2; buffer 0 0 0 = 1>0 1>1; spoil 0 0 0 = 1",
            "buffer 0 0 0 = 1>1; credits 0 0 0 = 1; ofExchange 1 8 = 4; house 8 = 4; spoil 0 0 0 = 1; buffer 0 0 0 =",
            "credits 0 0 0 = 2; spoil 0 0 0 = -9; told 0 0 = open");
        s.holds("promise 21", "The first NOTICE of a NODE goes.", Runs.PAIR,
            "notice 0 = 2; notices 0 = 5 6; notices 1 = 1 5 6");
        s.holds("promise 22", "TICKS.", "tick 1; house 10 = 1; tick 20; house 10 = 21");
        s.holds("promise 23", "A CONTROLLER falls.", ONE,
            "crash 0 = 0; isUp 0 = false; isUp 1 = true; address 4 = -1; house 3 = 1");
        s.holds("promise 25", "DRAINS.", ONE,
            "write 0 0 0 0 2 5; tick 5; drain 1 = 1; cache 0 = 0.1=6; cache 1 = 0.1=6; onSide 0 1 0 = 5");
        s.holds("promise 26", "A SIDE breaks.",
            "breakSide 3 1 = 0; ofSide 3 1 0 = 0; ofSide 3 1 1 = 0; ofSide 3 0 0 = 1");
        s.holds("promise 27", "A SIDE is mended.", "breakSide 3 1; mend 3 1 = 0; ofSide 3 1 0 = 1; ofSide 3 1 1 = 0");
        s.holds("promise 30", "REVERTS a VOLUME.", ONE,
            "copy 0 0; write 0 0 0 0 2 5; tick 5; revert 0 0 = 2; value 0 0 = 0; ofVolume 0 1 = 15");
        s.holds("promise 31", "A COPY goes.",
            "copy 0 0; copy 0 1; forget 0 0 = 0; ofVolume 0 2 = 2; copied 0 0 0 = -1; copied 0 1 0 = 0");
    }
}
