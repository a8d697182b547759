/** Section 1 and promises 2 to 10, 33 to 41 and 44, sentence by sentence: switches, domains, nodes, zones, ways. */
final class EdgesOfSwitches {
    /** Three fabrics' worth of links in a row, so that the domains are 1, 2, 3 and 4. */
    private static final String CHAIN = "link 0 1 1; link 1 2 1; link 2 3 1;";
    /** All nodes at the switch 0, in one zone, logged in. */
    private static final String ALL =
        "attach 0 0; attach 1 0; attach 2 0; attach 3 0; attach 4 0; attach 5 0; attach 6 0;"
            + "attach 7 0; zone 0 0 true; zone 0 1 true; zone 0 2 true; zone 0 3 true; zone 0 4 true; zone 0 5 true;"
            + "zone 0 6 true; zone 0 7 true; login 0; login 1; login 2; login 3; login 4; login 5; login 6; login 7;";
    /** Host 0 at the switch 0 and port 4 at the switch 1 (its domain is 2 already), without a link between. */
    private static final String APART = "link 0 1 1; unlink 0 1; attach 0 0; attach 4 1; zone 0 0 true; zone 0 4 true;"
        + "login 0; login 4;";

    private EdgesOfSwitches() {
    }

    static void all(Sentences s) {
        switchesAndLinks(s);
        fabrics(s);
        domains(s);
        nodes(s);
        loggedOut(s);
        sight(s);
        lost(s);
        notices(s);
        lastEightNotices(s);
        ways(s);
        linkCalls(s);
        switchCalls(s);
        nodeCalls(s);
        questions(s);
    }

    private static String by(int promise) {
        return "promise " + promise + " by section 1";
    }

    private static void switchesAndLinks(Sentences s) {
        s.holds(by(4), "SWITCHES 0 to 3, UP or DOWN (UP at first)",
            "ofSwitch 0 0 = 1; ofSwitch 1 0 = 1; ofSwitch 2 0 = 1; ofSwitch 3 0 = 1; house 0 = 4; fall 0 = 0",
            "ofSwitch 0 0 = 0; house 0 = 3; fall 3 = 0; fall 1 = 0; fall 2 = 0; house 0 = 0; house 1 = 0; rise 3 = 1",
            "ofSwitch 3 0 = 1; house 0 = 1");
        s.holds(by(6), "each with a PRIORITY (1 to 9, 5 at first)",
            "ofSwitch 0 1 = 5; ofSwitch 1 1 = 5; ofSwitch 2 1 = 5; ofSwitch 3 1 = 5; priority 0 1 = 0",
            "priority 3 9 = 3; ofSwitch 0 1 = 1; ofSwitch 3 1 = 9; ofSwitch 1 1 = 5");
        s.holds(by(2), "Between each two there may be a LINK with a COST, 1 to 9 (none at first)",
            "house 2 = 0; cost 0 1 = -1; cost 2 3 = -1; cost 3 0 = -1; link 0 1 1; link 0 2 9; link 0 3 1; link 1 2 1",
            "link 3 1 1; link 3 2 9; house 2 = 6; cost 1 0 = 1; cost 2 0 = 9; cost 3 0 = 1; cost 2 1 = 1",
            "cost 1 3 = 1; cost 2 3 = 9");
        s.holds(by(4), "it is ALIVE, if both are UP",
            "link 2 3 9; far 2 3 = 9; fall 2; far 2 3 = -1; far 3 2 = -1; fall 3; far 2 3 = -1; cost 2 3 = 9",
            "house 2 = 1; rise 2; far 2 3 = -1; way 2 3 = -1; rise 3; far 2 3 = 9; way 3 2 = 2; fall 3; far 2 3 = -1",
            "house 2 = 1");
    }

    private static void fabrics(Sentences s) {
        s.holds(by(33),
            "A FABRIC: SWITCHES that are UP, each to be come to from each other one by LINKS that are ALIVE", CHAIN,
            "ofSwitch 0 4 = 15; ofSwitch 3 4 = 15; house 1 = 1; fall 1; ofSwitch 0 4 = 1; ofSwitch 1 4 = 0",
            "ofSwitch 2 4 = 12; ofSwitch 3 4 = 12; house 1 = 2; fall 3; ofSwitch 2 4 = 4; house 1 = 2; fall 0",
            "house 1 = 1; fall 2; house 1 = 0; ofSwitch 2 4 = 0; rise 1; rise 0; ofSwitch 0 4 = 3; house 1 = 1");
        s.holds(by(6), "PRINCIPAL of a FABRIC: that with the smallest PRIORITY", CHAIN,
            "ofSwitch 3 3 = 0; priority 3 4 = 3; ofSwitch 0 3 = 3; priority 1 1 = 1; ofSwitch 3 3 = 1",
            "priority 0 1 = 0; ofSwitch 1 3 = 0; priority 0 2 = 1; priority 1 9 = 0; priority 0 9 = 3",
            "priority 3 9 = 2; priority 2 9 = 0");
        s.holds("description", "of several the first one, or that with the smallest number", CHAIN,
            "priority 2 3 = 2; priority 3 3 = 2; priority 1 3 = 1; ofSwitch 3 3 = 1; fall 1; ofSwitch 3 3 = 2",
            "ofSwitch 0 3 = 0");
    }

    private static void domains(Sentences s) {
        s.holds(by(1), "DOMAIN of a SWITCH: 1 to 9; at first 1 (each SWITCH is a FABRIC of its own).",
            "ofSwitch 0 2 = 1; ofSwitch 1 2 = 1; ofSwitch 2 2 = 1; ofSwitch 3 2 = 1; house 1 = 4; ofSwitch 0 4 = 1",
            "ofSwitch 3 4 = 8", CHAIN, "ofSwitch 0 2 = 1; ofSwitch 1 2 = 2; ofSwitch 2 2 = 3; ofSwitch 3 2 = 4");
        s.holds(by(2), "first its PRINCIPAL",
            "priority 3 4; link 0 3 1; ofSwitch 3 2 = 1; ofSwitch 0 2 = 2; priority 2 3; link 2 3 1; ofSwitch 2 2 = 1",
            "ofSwitch 3 2 = 3; ofSwitch 0 2 = 2");
        s.holds(by(2), "then the others, SWITCH by SWITCH, each keeps its DOMAIN, if none ahead of it in this has it",
            "link 0 1 1; link 2 3 1; priority 2 4 = 2; link 1 2 1; ofSwitch 2 2 = 1; ofSwitch 0 2 = 3",
            "ofSwitch 1 2 = 2; ofSwitch 3 2 = 4");
        s.holds(by(2), "otherwise it gets the smallest one that no SWITCH of this FABRIC has then",
            "link 0 1 1; link 0 2 1; ofSwitch 2 2 = 3; unlink 0 1; ofSwitch 1 2 = 2; link 0 3 1; ofSwitch 3 2 = 2",
            "ofSwitch 2 2 = 3");
        s.holds(by(2), "the smallest one that no SWITCH of this FABRIC has then",
            "link 0 1 1; unlink 0 1; link 1 2 1; ofSwitch 1 2 = 2; ofSwitch 2 2 = 1; link 2 3 1; ofSwitch 2 2 = 1",
            "ofSwitch 3 2 = 3; unlink 1 2; unlink 2 3; link 1 3 1; link 0 1 1; ofSwitch 0 2 = 1; ofSwitch 1 2 = 2",
            "ofSwitch 3 2 = 3");
        s.holds(by(2), "the smallest one",
            "link 0 1 1; link 2 3 1; unlink 0 1; unlink 2 3; ofSwitch 1 2 = 2; ofSwitch 3 2 = 2; link 1 3 1",
            "ofSwitch 1 2 = 2; ofSwitch 3 2 = 1");
        s.holds(by(2), "whether it was looked at or not",
            "link 0 2 1; ofSwitch 2 2 = 2; link 0 1 1; ofSwitch 1 2 = 3; ofSwitch 2 2 = 2; link 1 3 1",
            "ofSwitch 3 2 = 4");
        s.holds(by(2), "Behind each call of this section (link() to zone()) that changes SWITCHES or LINKS, FABRIC by "
                + "FABRIC",
            "link 0 1 1; link 2 3 1; ofSwitch 1 2 = 2; ofSwitch 3 2 = 2; ofSwitch 0 2 = 1; ofSwitch 2 2 = 1; fall 1",
            "link 1 3 1; ofSwitch 1 2 = 2; ofSwitch 3 2 = 2; rise 1 = 2; ofSwitch 0 2 = 1; ofSwitch 2 2 = 3",
            "ofSwitch 3 2 = 4");
        s.holds(by(5), "One that is DOWN keeps its own, till it is looked at again.",
            "link 0 1 1; fall 1; ofSwitch 1 2 = 2; link 0 2 1; ofSwitch 2 2 = 2; ofSwitch 1 2 = 2; priority 1 9 = -1",
            "ofSwitch 1 2 = 2; unlink 0 1; ofSwitch 1 2 = 2; rise 1 = 2; fall 1; link 0 1 1; priority 2 4 = 2",
            "ofSwitch 1 2 = 2; rise 1 = 3");
    }

    private static void nodes(Sentences s) {
        s.holds(by(41), "NODES 0 to 7: 0 to 3 are HOSTS, 4 to 7 PORTS of the array", ALL,
            "path 3 0 = 4; control 3 0 0 4 = 1; ofExchange 1 0 = 3; ofExchange 1 1 = 4; house 3 = 8; logout 4 = 1",
            "path 3 0 = 6; logout 6; path 3 0 = 5; logout 5; path 3 0 = 7; logout 7; path 3 0 = -1",
            "names 3 = 100 101 102");
        s.holds(by(23), "PORT 4 and 6 belong to the CONTROLLER 0, 5 and 7 to the CONTROLLER 1", ALL,
            "crash 0; address 4 = -1; address 5 = 105; address 6 = -1; address 7 = 107; login 4 = -9; login 6 = -9",
            "restart 0; login 4 = 104; login 6 = 106; crash 1; address 4 = 104; address 5 = -1; address 6 = 106",
            "address 7 = -1; login 5 = -9; login 7 = -9; house 3 = 6");
        s.holds(by(7), "A NODE is AT a SWITCH, or at none (at first), and LOGGED IN, or not (not at first).",
            "at 0 = -1; at 3 = -1; at 4 = -1; at 7 = -1; address 0 = -1; address 7 = -1; house 3 = 0; attach 7 3 = -1",
            "at 7 = 3; address 7 = -1; login 7 = 107; attach 0 0 = -1; at 0 = 0; login 0 = 100; house 3 = 2");
        s.holds(by(37), "ADDRESS of one that is LOGGED IN: 100 times the DOMAIN of its SWITCH, and the NODE.", CHAIN,
            "attach 0 0; attach 7 3; attach 4 2; login 0 = 100; login 7 = 407; address 4 = -1; login 4 = 304",
            "address 7 = 407");
    }

    private static void loggedOut(Sentences s) {
        s.holds(by(4), "It is LOGGED OUT, if its SWITCH falls",
            "attach 0 1; attach 4 1; attach 1 2; login 0; login 4; login 1; fall 1 = 2; address 0 = -1; address 4 = -1",
            "address 1 = 101; at 0 = 1; rise 1; address 0 = -1; house 3 = 1");
        s.holds(by(2), "It is LOGGED OUT, if .. gets another DOMAIN",
            "attach 0 0; attach 1 1; attach 4 1; login 0; login 1; login 4; link 0 1 1; address 0 = 100",
            "address 1 = -1; address 4 = -1; login 1 = 201; unlink 0 1; address 1 = 201; link 0 1 2; address 1 = 201",
            "link 0 1 3; address 1 = 201; priority 1 1; address 0 = 100; address 1 = 201");
        s.holds(by(5), "It is LOGGED OUT, if .. or gets another DOMAIN",
            "link 0 1 1; fall 1; link 0 2 1; attach 3 2; login 3 = 203; attach 2 0; login 2 = 102; rise 1 = 2",
            "address 3 = -1; address 2 = 102; login 3 = 303");
        s.holds(by(23), "or (a PORT) its CONTROLLER falls", ALL,
            "crash 1; address 0 = 100; address 1 = 101; address 2 = 102; address 3 = 103; address 4 = 104",
            "address 5 = -1; address 6 = 106; address 7 = -1; crash 0; house 3 = 4; restart 0; restart 1; house 3 = 4",
            "address 4 = -1");
    }

    private static void sight(Sentences s) {
        String rule =
            "Two NODES SEE each other, if both are LOGGED IN, their SWITCHES are in one FABRIC, and some ZONE "
                + "has both.";
        s.holds(by(38), rule, APART,
            "names 0 =; path 0 0 = -1; link 0 1 1; names 0 = 204; names 4 = 100; path 0 0 = 4; unlink 0 1; names 4 =");
        s.holds(by(38), "if both are LOGGED IN", APART,
            "link 0 1 1; logout 4; names 0 =; names 4 =; login 4; names 0 = 204; logout 0; names 4 =; names 0 =",
            "login 0; names 4 = 100");
        s.holds(by(38), "their SWITCHES are in one FABRIC", APART,
            "link 0 2 1; link 2 3 1; names 0 =; link 3 1 1; names 0 = 204; fall 2; names 0 =; rise 2; names 0 = 204");
        s.holds(by(38), "and some ZONE has both", APART,
            "link 0 1 1; zone 0 4 false; zone 1 4 true; names 0 =; names 4 =; zone 3 0 true; zone 3 4 true",
            "names 0 = 204; zone 2 0 true; zone 2 4 true; zone 3 4 false; names 0 = 204; zone 2 0 false; names 4 =",
            "zone 1 0 true; names 4 = 100");
        s.holds(by(10), "ZONES 0 to 3 are sets of NODES (empty at first).",
            "ofZone 0 = 0; ofZone 1 = 0; ofZone 2 = 0; ofZone 3 = 0; zone 3 7 true = 1; zone 0 0 true = 1",
            "ofZone 3 = 128; ofZone 0 = 1; attach 0 0; attach 7 0; login 0; login 7; names 0 =; zone 3 0 true",
            "names 0 = 107; names 7 = 100");
        s.holds("promise 38",
            "Returns the ADDRESSES of all NODES that it SEES (not its own), by NODES, with one blank between; "
                + "\"\" without.", ALL, "names 0 = 101 102 103 104 105 106 107; names 7 = 100 101 102 103 104 105 106",
            "names 3 = 100 101 102 104 105 106 107; zone 0 3 false; names 3 =; names 2 = 100 101 104 105 106 107",
            "zone 1 7 true; zone 1 3 true; names 3 = 107");
    }

    private static void lost(Sentences s) {
        String rule = "all EXCHANGES that are OPEN, and whose two NODES do not SEE each other any more, are LOST";
        String open = Runs.PAIR + "; control 0 0 0 4 = 1; control 0 1 1 4 = 2; tick 1";
        s.holds(by(3), rule, open, "unlink 0 1; told 0 0 = lost; told 0 1 = lost; house 7 = 2; house 8 = 0");
        s.holds(by(4), rule, open, "fall 0 = 2; told 0 0 = lost; told 0 1 = lost; house 8 = 0");
        s.holds(by(4), rule, open, "fall 1 = 2; told 0 0 = lost; told 0 1 = lost; house 8 = 0");
        s.holds(by(9), rule, open, "logout 0 = 2; told 0 0 = lost; told 0 1 = lost; house 8 = 0");
        s.holds(by(9), rule, open, "logout 5 = 1; told 0 0 = open; told 0 1 = lost; house 8 = 1");
        s.holds(by(10), rule, open,
            "zone 0 4 false; told 0 0 = lost; told 0 1 = open; zone 0 0 false; told 0 1 = lost");
        s.holds(by(10), rule, open,
            "zone 1 0 true; zone 1 4 true; zone 0 0 false; told 0 0 = open; told 0 1 = lost; zone 2 4 true",
            "zone 2 0 true; zone 1 4 false; told 0 0 = open; tick 20; told 0 0 = good; zone 2 4 false",
            "told 0 0 = good; house 7 = 1");
        s.holds(by(4), rule, open,
            "link 0 2 1; link 2 1 1; unlink 0 1; told 0 0 = open; fall 2; told 0 0 = lost; told 0 1 = lost");
        s.holds(by(23), "and as a CONTROLLER falls, " + rule, open,
            "crash 1; told 0 0 = open; told 0 1 = lost; crash 0; told 0 0 = lost");
        s.holds(by(2), "(ahead of that, DOMAINS are looked at)", "link 2 3 1; priority 3 1;" + open,
            "ofSwitch 3 2 = 2; link 1 3 1; ofSwitch 1 2 = 3; address 4 = -1; told 0 0 = lost; house 7 = 2");
        s.holds(by(5), "(ahead of that, DOMAINS are looked at)", "link 0 2 1; fall 2; priority 2 1;" + open,
            "rise 2 = 2; ofSwitch 1 2 = 3; address 4 = -1; told 0 0 = lost; told 0 1 = lost");
    }

    private static void notices(Sentences s) {
        s.holds(by(44),
            "of each NODE that is LOGGED IN, NODE by NODE: each other NODE that it SEES now and did not SEE as "
                + "this was looked" + " at last counts as a NOTICE, its number and 1",
            "attach 0 0; attach 7 0; zone 0 0 true; zone 0 7 true; login 0; notices 0 =; login 7; notices 0 = 8",
            "notices 7 = 1; attach 3 0; attach 4 0; zone 0 3 true; zone 0 4 true; login 3; notices 3 = 1 8; login 4",
            "notices 0 = 8 4 5; notices 7 = 1 4 5; notices 3 = 1 8 5; notices 4 = 1 4 8; zone 1 0 true; zone 1 7 true",
            "notices 0 = 8 4 5");
        s.holds(by(44), "each that it SAW and does not SEE any more as one below 0, as far",
            "attach 0 0; attach 7 0; zone 0 0 true; zone 0 7 true; login 0; login 7; logout 7; notices 0 = 8 -8",
            "login 7; logout 0; notices 7 = 1 -1; attach 3 0; attach 4 0; zone 0 3 true; zone 0 4 true; login 3",
            "login 4; zone 0 7 false; notices 7 = 1 -1 4 5 -4 -5; notices 3 = 8 5 -8; notices 4 = 4 8 -8");
        s.holds(by(44), "both together by the numbers of the other NODES",
            "link 0 1 1; link 2 3 1; priority 2 1; attach 0 1; attach 1 2; attach 2 0; attach 3 2; attach 4 3",
            "zone 0 0 true; zone 0 1 true; zone 0 2 true; zone 0 3 true; zone 0 4 true; login 0; login 1; login 2",
            "login 3; login 4; notices 0 = 3; notices 1 = 4 5; link 1 2 1; notices 0 = 3 2 -3 4; notices 1 = 4 5 1 -5");
        s.holds(by(44), "One that is not LOGGED IN SEES nobody; its row is empty.", Runs.PAIR,
            "notices 4 = 1 2 6; logout 4; notices 4 =; names 4 =; notice 4 = 0; logout 0; notices 4 =; login 4",
            "notices 4 = 2 6; notices 1 = 1 5 6 -5 -1 5; fall 0; notices 1 =; notices 0 =; notices 4 = 2 6 -2",
            "crash 1; notices 5 =; notices 4 = 2 6 -2 -6; names 5 =");
        s.holds(by(44), "NOTICES of a NODE: behind each call of this section", APART,
            "notices 0 =; link 0 1 1; notices 0 = 5; notices 4 = 1; link 0 1 9; notices 0 = 5; unlink 0 1",
            "notices 0 = 5 -5; link 0 2 1; link 2 1 1; notices 4 = 1 -1 1; fall 2; notices 4 = 1 -1 1 -1; rise 2",
            "notices 0 = 5 -5 5 -5 5; zone 0 4 false; notices 0 = 5 -5 5 -5 5 -5; zone 0 4 true; logout 4",
            "notices 0 = 5 -5 5 -5 5 -5 5 -5; login 4; notices 0 = -5 5 -5 5 -5 5 -5 5; notices 4 = 1; priority 0 9",
            "attach 3 3; notices 4 = 1");
        s.holds(by(44), "and as a CONTROLLER falls (ahead of what is LOST by it)", Runs.PAIR,
            "control 0 0 0 4 = 1; crash 0; notices 0 = 2 5 6 -5; notices 1 = 1 5 6 -5; notices 4 =; told 0 0 = lost",
            "restart 0; notices 0 = 2 5 6 -5; login 4; notices 0 = 2 5 6 -5 5");
    }

    private static void lastEightNotices(Sentences s) {
        String rule = "They stand in a row, the last eight (with one more the first one goes).";
        String eight = "attach 0 0; zone 0 0 true; attach 7 0; zone 0 7 true; attach 6 0; zone 0 6 true; attach 1 0;"
                + " zone 0 1 true;" + "login 0; login 7; login 6; logout 6; login 6; logout 6; login 6; login 1; ";
        s.holds(by(44), rule, eight, "notices 0 = 8 7 -7 7 -7 7 2; logout 7; notices 0 = 8 7 -7 7 -7 7 2 -8");
        s.holds(by(44), rule, eight,
            "logout 7; logout 6; notices 0 = 7 -7 7 -7 7 2 -8 -7; login 6; notices 0 = -7 7 -7 7 2 -8 -7 7");
        s.holds(by(44), rule, eight, "login 2 = -9; zone 0 0 false; notices 0 = -7 7 -7 7 2 -2 -7 -8; zone 0 0 true",
            "notices 0 = 7 2 -2 -7 -8 2 7 8; notice 0 = 7; logout 1; notices 0 = 2 -2 -7 -8 2 7 8 -2; logout 7",
            "notices 0 = -2 -7 -8 2 7 8 -2 -8");
        s.holds(by(44), rule, ALL,
            "notices 0 = 2 3 4 5 6 7 8; zone 0 0 false; notices 0 = 8 -2 -3 -4 -5 -6 -7 -8; zone 0 0 true",
            "notices 0 = -8 2 3 4 5 6 7 8; notices 7 = 2 3 4 5 6 7 -1 1; fall 0; notices 0 =");
    }

    private static void ways(Sentences s) {
        String rule =
            "the neighbour by a LINK that is ALIVE over which the sum of COSTS to that, by such LINKS alone, is "
                + "least";
        s.holds(by(35), rule,
            "link 0 3 9; link 0 1 4; link 1 3 4; far 0 3 = 8; way 0 3 = 1; way 3 0 = 1; link 1 3 6; far 0 3 = 9",
            "way 0 3 = 3; way 3 0 = 0; link 2 0 1; link 2 3 7; far 0 3 = 8; way 0 3 = 2; link 1 2 2; far 1 3 = 6",
            "far 1 0 = 3; way 1 0 = 2; way 0 1 = 2");
        s.holds(by(35), rule,
            "link 0 1 1; link 1 2 1; link 0 2 9; far 0 2 = 2; fall 1; far 0 2 = 9; way 0 2 = 2; far 0 1 = -1",
            "way 1 0 = -1; fall 2; far 0 2 = -1; way 0 2 = -1; rise 1; far 0 2 = -1; far 0 1 = 1; rise 2; far 0 2 = 2",
            "way 0 2 = 1");
        s.holds(by(35), rule + " (of several the smallest SWITCH)",
            "link 0 3 9; link 0 1 4; link 1 3 5; far 0 3 = 9; way 0 3 = 1; way 3 0 = 0; link 2 3 3; link 2 0 6",
            "way 0 3 = 1; way 3 0 = 0; link 0 1 5; way 0 3 = 2; link 2 1 1; far 2 1 = 1; far 0 1 = 5; far 3 1 = 4",
            "way 3 1 = 2");
        s.holds(by(35), "(of several the smallest SWITCH)",
            "link 1 0 2; link 0 2 2; link 1 3 2; link 3 2 2; far 1 2 = 4; way 1 2 = 0; way 2 1 = 0; link 0 3 4",
            "way 0 3 = 1; way 3 0 = 0; link 1 2 4; way 1 2 = 0; way 2 1 = 0; link 1 2 3; way 1 2 = 2");
        s.holds("promise 35", "Returns the next SWITCH by the WAY (to itself: itself, also DOWN); NONE without.",
            "way 0 0 = 0; way 3 3 = 3; way 0 3 = -1; fall 3; way 3 3 = 3; way 0 0 = 0; link 0 3 1; way 0 3 = -1",
            "way 3 0 = -1");
        s.holds("promise 36", "Returns the least sum of COSTS (to itself 0, also DOWN); NONE without a WAY.",
            "far 0 0 = 0; far 3 3 = 0; far 0 3 = -1; fall 3; far 3 3 = 0; link 0 3 1; far 0 3 = -1; far 3 0 = -1",
            "far 0 0 = 0; rise 3; far 0 3 = 1; link 0 3 9; link 0 1 9; link 1 2 9; far 3 2 = 27");
    }

    private static void linkCalls(Sentences s) {
        s.holds("promise 2", "A LINK comes, or gets another COST.",
            "link 0 1 9 = -1; cost 0 1 = 9; link 1 0 1 = 9; cost 0 1 = 1; cost 1 0 = 1; link 0 1 1 = 1; house 2 = 1",
            "credits 2 0 1 = 2");
        s.holds("promise 2", "Returns the COST ahead; NONE without a LINK.",
            "link 3 2 4 = -1; link 2 3 9 = 4; link 3 2 1 = 9; unlink 2 3; link 2 3 2 = -1; fall 2; link 3 2 5 = 2",
            "link 1 2 5 = -1");
        s.holds("promise 2", "or gets another COST", Runs.PAIR,
            "leak 1 4 0; leak 1 4 0; control 0 0 0 4; tick 1; leak 2 0 1 = 1; leak 2 1 0 = 1; link 0 1 9 = 2",
            "buffer 2 0 1 = 1>0; credits 2 0 1 = 0; credits 2 1 0 = 1; house 12 = 4; told 0 0 = open");
        s.holds("promise 3", "Returns its COST; -9 if there is none.",
            "link 0 1 1; link 2 3 9; unlink 1 0 = 1; unlink 2 3 = 9; house 2 = 0; link 0 1 4; fall 1; unlink 0 1 = 4");
        s.refused("promise 3", "-9 if there is none", Runs.RICH, "unlink 0 2", "unlink 2 0", "unlink 0 3", "unlink 1 3",
            "unlink 2 1");
        s.refused("promise 3", "-9 if there is none", Runs.RICH + "unlink 2 3", "unlink 2 3", "unlink 3 2");
    }

    private static void switchCalls(Sentences s) {
        s.holds("promise 4", "Returns how many NODES were LOGGED IN at it.",
            ALL, "attach 7 0 = -9; fall 0 = 8; rise 0; fall 0 = 0; rise 0; login 3; fall 0 = 1; fall 3 = 0");
        s.holds("promise 4", "A SWITCH falls.", Runs.PAIR,
            "attach 6 1; fall 1 = 2; ofSwitch 1 0 = 0; ofSwitch 1 3 = -1; ofSwitch 1 4 = 0; ofSwitch 1 6 = 112",
            "fall 0 = 2; house 0 = 2; cost 0 1 = 2; credits 2 0 1 = 2; credits 0 0 0 = 2");
        s.holds("promise 5", "Returns its DOMAIN then.",
            "fall 0; rise 0 = 1; link 0 1 1; fall 1; rise 1 = 2; fall 1; link 0 2 1; priority 2 1; rise 1 = 3; fall 1",
            "rise 1 = 3");
        s.holds("promise 5", "A SWITCH is UP again.",
            "fall 2; rise 2 = 1; ofSwitch 2 0 = 1; ofSwitch 2 3 = 2; ofSwitch 2 4 = 4; house 0 = 4; fall 2 = 0",
            "rise 2 = 1");
        s.holds("promise 6", "Returns which SWITCH is PRINCIPAL of its FABRIC then (NONE if it is DOWN).",
            "link 0 1 1; priority 1 5 = 0; priority 1 4 = 1; priority 0 4 = 0; priority 0 9 = 1; priority 3 9 = 3",
            "fall 0; priority 0 1 = -1; ofSwitch 0 1 = 1; priority 1 9 = 1; rise 0; ofSwitch 1 3 = 0");
    }

    private static void nodeCalls(Sentences s) {
        s.holds("promise 7", "A NODE is AT a SWITCH from now on, or at none (where it is already: nothing is other).",
            "attach 0 2; leak 0 0 0; leak 1 0 0; leak 1 0 0; attach 0 2 = 2; credits 0 0 0 = 1; credits 1 0 0 = 0",
            "house 12 = 3; attach 0 3 = 2; credits 0 0 0 = 2; credits 1 0 0 = 2; house 12 = 0; attach 0 -1 = 3",
            "attach 0 -1 = -1; at 0 = -1");
        s.holds("promise 7", "Returns where it was (NONE)",
            "attach 7 0 = -1; attach 7 3 = 0; attach 7 -1 = 3; attach 7 -1 = -1; attach 7 0 = -1; fall 0; fall 1",
            "attach 7 1 = 0; at 7 = 1");
        s.refused("promise 7", "-9 if it is LOGGED IN", Runs.RICH,
            "attach 0 0", "attach 0 1", "attach 0 3", "attach 0 -1", "attach 5 1", "attach 5 0", "attach 5 -1");
        s.thrown("promise 7",
            "-9 if it is LOGGED IN. .. Throws IllegalArgumentException if which is not NONE and no SWITCH",
            Sentences.ARGUMENT, "attach 0 2; login 0", "attach 0 4", "attach 0 -2");
        s.holds("promise 8", "Returns its ADDRESS",
            "attach 7 3; login 7 = 107; attach 0 0; login 0 = 100; link 0 1 1; attach 4 1; login 4 = 204; attach 1 1",
            "login 1 = 201");
        s.refused("promise 8", "-9 if it is LOGGED IN, at no SWITCH or at one that is DOWN", Runs.RICH
                + "attach 2 3; attach 6 3; fall 3", "login 0", "login 4", "login 3", "login 7", "login 2", "login 6");
        s.refused("promise 8", "or a PORT whose CONTROLLER is DOWN", Runs.RICH + "attach 7 0; attach 6 0; crash 1",
            "login 5", "login 7");
        s.holds("promise 8", "or a PORT whose CONTROLLER is DOWN",
            "attach 1 0; attach 3 0; attach 4 0; attach 5 0; crash 0; login 4 = -9; login 5 = 105; login 1 = 101",
            "crash 1; login 5 = -9; login 3 = 103; restart 0; login 4 = 104; login 5 = -9");
        s.holds("promise 9", "Returns how many EXCHANGES are LOST by that", ALL,
            "control 0 0 0 4; control 0 1 0 4; control 0 2 1 4; control 1 0 0 4; logout 4 = 3; logout 0 = 1",
            "logout 1 = 0; logout 5 = 0; house 7 = 4");
        s.refused("promise 9", "-9 if it is not LOGGED IN", Runs.RICH
                + "attach 2 0; logout 1; zone 1 2 true; zone 1 7 true", "logout 1", "logout 2", "logout 7");
        s.holds("promise 10", "Returns how many NODES it has then.",
            "zone 0 0 true = 1; zone 0 7 true = 2; zone 0 7 true = 2; zone 0 0 false = 1; zone 0 0 false = 1",
            "zone 0 7 false = 0; zone 0 3 false = 0; zone 3 0 true; zone 3 1 true; zone 3 2 true; zone 3 3 true",
            "zone 3 4 true; zone 3 5 true; zone 3 6 true; zone 3 7 true = 8; ofZone 3 = 255; zone 3 7 true = 8");
    }

    private static void questions(Sentences s) {
        s.holds("promise 33",
            "3 PRINCIPAL of its FABRIC (NONE if DOWN), 4 the set of SWITCHES of its FABRIC (0 if DOWN)", CHAIN,
            "ofSwitch 2 3 = 0; ofSwitch 2 4 = 15; fall 0; ofSwitch 0 3 = -1; ofSwitch 0 4 = 0; ofSwitch 2 3 = 1",
            "ofSwitch 2 4 = 14");
        s.holds("promise 33", "5 FRAMES and ACKS in BUFFERS at it, 6 the set of NODES AT it", Runs.PAIR,
            "leak 1 4 0; leak 1 4 0; manner 0 true false; write 0 0 0 0 4 1; tick 5; ofSwitch 0 5 = 0",
            "ofSwitch 1 5 = 2; row 0 = 1>2 1>3 1>4; recover; leak 2 1 0; leak 2 1 0; tick 3; buffer 0 4 0 = 1>0! 1>1!",
            "buffer 2 0 1 =; ofSwitch 1 5 = 2; ofSwitch 0 6 = 3; ofSwitch 1 6 = 48; ofSwitch 2 6 = 0; fall 1",
            "ofSwitch 1 6 = 48; ofSwitch 1 5 = 0");
        s.holds("promise 33", "5 FRAMES and ACKS in BUFFERS at it", Runs.PAIR,
            "leak 2 0 1; leak 2 0 1; control 0 0 0 4; control 1 0 0 4; control 1 1 0 4; tick 2; buffer 0 0 0 = 1>0",
            "buffer 0 1 0 = 2>0 3>0; ofSwitch 0 5 = 3; ofSwitch 1 5 = 0; ofSwitch 2 5 = 0; ofSwitch 3 5 = 0; abort 0 0",
            "ofSwitch 0 5 = 2; credits 0 0 0 = 2");
        s.holds("promise 33", "5 FRAMES and ACKS in BUFFERS at it", Runs.PAIR,
            "control 0 0 0 4; tick 1; buffer 1 4 0 = 1>0; ofSwitch 1 5 = 0; ofSwitch 0 5 = 0; tick 1",
            "buffer 1 0 0 = 1<0; ofSwitch 0 5 = 0");
        s.holds("promise 34", "Returns the COST of their LINK; NONE without.",
            "cost 0 1 = -1; link 0 1 9; cost 0 1 = 9; cost 1 0 = 9; fall 0; cost 0 1 = 9; unlink 0 1; cost 0 1 = -1",
            "cost 2 3 = -1");
        s.holds("promise 37", "Returns its ADDRESS; NONE if it is not LOGGED IN.",
            "address 0 = -1; attach 0 0; address 0 = -1; login 0; address 0 = 100; logout 0; address 0 = -1");
        s.holds("promise 39", "Returns where it is AT; NONE without.",
            "at 7 = -1; attach 7 0; at 7 = 0; login 7; fall 0; at 7 = 0; attach 7 3; at 7 = 3; attach 7 -1; at 7 = -1");
        s.holds("promise 40", "Returns its set.",
            "ofZone 3 = 0; zone 3 0 true; ofZone 3 = 1; zone 3 7 true; ofZone 3 = 129; zone 3 0 false; ofZone 3 = 128",
            "ofZone 0 = 0");
        s.holds("promise 41", "Returns the PORT of the PATH; NONE without.", ALL,
            "path 0 0 = 4; path 3 3 = 5; path 0 2 = 4; path 0 1 = 5; zone 0 0 false; path 0 0 = -1; path 1 0 = 4",
            "fall 0; path 1 0 = -1");
        s.holds("promise 44", "Returns its NOTICES, the first one ahead, with one blank between; \"\" without.",
            "notices 0 =; notices 7 =;" + Runs.PAIR,
            "notices 0 = 2 5 6; logout 1; notices 0 = 2 5 6 -2; notices 1 =; notices 7 =");
        s.holds("description", "A set of numbers is told as the sum of 2^k for each number k in it.", ALL,
            "zone 1 0 true; ofZone 0 = 255; ofZone 1 = 1; ofZone 2 = 0; ofSwitch 0 6 = 255; ofSwitch 1 6 = 0",
            "ofSwitch 3 4 = 8", CHAIN, "ofSwitch 3 4 = 15; zone 0 0 false; ofZone 0 = 254");
        s.holds("description", "NONE is -1.",
            "at 0 = -1; cost 0 1 = -1; way 0 1 = -1; far 0 1 = -1; credits 0 0 0 = -1; path 0 0 = -1",
            "copied 0 0 0 = -1; ofVolume 0 0 = -1; attach 0 -1 = -1; fall 0; ofSwitch 0 3 = -1");
    }
}
