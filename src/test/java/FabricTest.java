/** Promises 1 to 10, 33 to 41 and 44: switches, links, domains, nodes, zones, and what is asked of them. */
public final class FabricTest {
    private static final String INDEX = "IndexOutOfBoundsException";
    private static final String ARGUMENT = "IllegalArgumentException";
    private static final String STATE = "IllegalStateException";

    /** Host 0 at the switch 0, port 4 at the switch 2; the way goes over the switch 1, or else by a dear link. */
    private static final String TWO_WAYS = "link 0 1 1; link 1 2 1; link 0 2 9; attach 0 0; attach 4 2; zone 0 0 true;"
        + "zone 0 4 true; login 0; login 4";

    public static void main(String[] args) {
        Runs runs = new Runs();
        made(runs);
        links(runs);
        domains(runs);
        fallsAndRises(runs);
        priorities(runs);
        attaching(runs);
        logins(runs);
        logouts(runs);
        zones(runs);
        notices(runs);
        ways(runs);
        paths(runs);
        questions(runs);
        runs.end();
    }

    private static void made(Runs runs) {
        runs.run("promise 1: a new object",
            "house 0 = 4; house 1 = 4; house 2 = 0; house 3 = 0; house 4 = 0; house 5 = 0; house 6 = 0; house 7 = 0",
            "house 8 = 0; house 9 = 0; house 10 = 0; house 11 = 0; house 12 = 0; house 13 = 0; ofSwitch 0 0 = 1",
            "ofSwitch 0 1 = 5; ofSwitch 0 2 = 1; ofSwitch 0 3 = 0; ofSwitch 0 4 = 1; ofSwitch 3 0 = 1",
            "ofSwitch 3 1 = 5; ofSwitch 3 2 = 1; ofSwitch 3 3 = 3; ofSwitch 3 4 = 8; ofSwitch 2 5 = 0",
            "ofSwitch 2 6 = 0; cost 0 1 = -1; cost 2 3 = -1; far 0 1 = -1; way 0 1 = -1; at 0 = -1; at 7 = -1",
            "address 0 = -1; address 7 = -1; names 0 =; notices 7 =; row 0 =; row 7 =; ofZone 0 = 0; ofZone 3 = 0",
            "path 0 0 = -1; credits 0 0 0 = -1; credits 2 0 1 = -1; queue 0 =; queue 1 =; told 0 0 = none",
            "told 3 3 = none; values 0 = 0 0 0 0 0 0 0 0; values 3 = 0 0 0 0 0 0 0 0; ofSide 0 0 0 = 1",
            "ofSide 0 0 1 = 1; ofSide 0 0 2 = 0; ofSide 3 1 0 = 1; ofSide 3 1 1 = 1; onSide 3 1 7 = 0",
            "copied 0 0 0 = -1; copied 3 1 7 = -1; cache 0 =; cache 1 =; isUp 0 = true; isUp 1 = true",
            "ofVolume 0 0 = -1; ofVolume 0 1 = 0; ofVolume 0 2 = 0; ofVolume 0 3 = 0; ofVolume 0 5 = 0",
            "manner 0 false false = 0; manner 3 false false = 0; deny 0 0 false = 0; recover = 0; notice 0 = 0");
    }

    private static void links(Runs runs) {
        runs.run("promise 2: a link comes and gets another cost, from either side",
            "link 0 1 9 = -1; cost 0 1 = 9; cost 1 0 = 9; house 2 = 1; link 1 0 1 = 9; cost 0 1 = 1; house 2 = 1",
            "link 0 1 1 = 1; credits 2 0 1 = 2; credits 2 1 0 = 2; house 1 = 3; ofSwitch 0 4 = 3; ofSwitch 1 4 = 3",
            "link 2 3 5 = -1; link 3 0 4 = -1; house 2 = 3; house 1 = 1; ofSwitch 2 4 = 15; isSound = true");
        runs.each("promise 2: no such switch goes ahead of a wrong cost", "link 0 1 2", INDEX,
            "link -1 0 1", "link 0 -1 1", "link 4 0 1", "link 0 4 1", "link 2 2 1", "link 4 0 10", "link 0 4 0",
            "link 1 1 0", "link 3 3 10", "link -2147483648 0 1", "link 0 2147483647 1");
        runs.each("promise 2: a wrong cost", "link 0 1 2", ARGUMENT,
            "link 0 1 0", "link 0 1 10", "link 1 0 -1", "link 2 3 2147483647", "link 2 3 -2147483648");
        runs.run("promise 2: another cost leaves frames and leaked credits",
            Runs.PAIR, "leak 1 4 0; leak 1 4 0; control 0 0 0 4 = 1; tick 1 = 2; buffer 2 0 1 = 1>0; leak 2 0 1 = 1",
            "link 0 1 7 = 2; buffer 2 0 1 = 1>0; credits 2 0 1 = 0; house 12 = 3; told 0 0 = open");
        runs.run("promise 2: a link with a switch that is down is there, but not alive",
            "fall 1 = 0; link 0 1 3 = -1; cost 0 1 = 3; house 2 = 1; credits 2 0 1 = 2; far 0 1 = -1; way 0 1 = -1",
            "ofSwitch 0 4 = 1; ofSwitch 1 4 = 0; rise 1 = 2; far 0 1 = 3; way 1 0 = 0");
        runs.run("promise 3: a link goes",
            "link 0 1 4; link 1 2 6; unlink 1 0 = 4; cost 0 1 = -1; cost 1 0 = -1; house 2 = 1; credits 2 0 1 = -1",
            "credits 2 1 0 = -1; unlink 0 1 = -9; unlink 1 0 = -9; house 9 = 2; unlink 1 2 = 6; unlink 0 3 = -9",
            "house 2 = 0; house 1 = 4; ofSwitch 1 2 = 2; ofSwitch 2 2 = 3; link 0 1 1 = -1");
        runs.each("promise 3: no such switch, or the same", "link 0 1 2", INDEX,
            "unlink -1 0", "unlink 0 -1", "unlink 4 0", "unlink 0 4", "unlink 1 1", "unlink 3 3");
        runs.run("promise 3: the frames and leaks of its two lines go with it, and what is not seen any more is lost",
            Runs.PAIR,
            "leak 1 4 0; leak 1 4 0; control 0 0 0 4 = 1; tick 1; buffer 2 0 1 = 1>0; leak 2 0 1; leak 2 1 0",
            "house 12 = 4; unlink 0 1 = 2; house 12 = 2; house 8 = 0; told 0 0 = lost; buffer 2 0 1 =; names 0 = 101",
            "link 0 1 2; credits 2 0 1 = 2; credits 2 1 0 = 2; names 0 = 101 204 205");
        runs.run("promise 3: only the frames of that link go, if there is another way",
            Runs.PAIR, "link 0 2 9; link 2 1 9; leak 2 0 1; write 0 0 0 0 2 5 = 1; write 1 0 0 4 1 7 = 2",
            "leak 1 4 0; leak 1 4 0; tick 1; buffer 2 0 1 = 1>0; buffer 0 1 0 = 2>0; unlink 0 1 = 2; buffer 2 0 1 =",
            "buffer 0 1 0 = 2>0; told 0 0 = open; told 1 0 = open; ofExchange 1 8 = 2; ofExchange 2 8 = 2");
    }

    private static void domains(Runs runs) {
        runs.run("promise 2: the principal is looked at first, then the others; a taken domain gives way to the "
                + "smallest free one",
            "priority 1 1 = 1; link 0 1 1; ofSwitch 0 2 = 2; ofSwitch 1 2 = 1; link 2 3 1; ofSwitch 2 2 = 1",
            "ofSwitch 3 2 = 2; link 1 2 1; ofSwitch 0 2 = 2; ofSwitch 1 2 = 1; ofSwitch 2 2 = 3; ofSwitch 3 2 = 4");
        runs.run("promise 2: a domain is free if none of the fabric has it, looked at or not",
            "link 0 2 1; ofSwitch 2 2 = 2; link 0 1 1; ofSwitch 1 2 = 3; ofSwitch 2 2 = 2; ofSwitch 0 2 = 1");
        runs.run("promise 2: the smallest free domain may be 1",
            "link 0 1 1; link 2 3 1; unlink 0 1; unlink 2 3; link 1 3 1; ofSwitch 1 2 = 2; ofSwitch 3 2 = 1",
            "ofSwitch 1 3 = 1");
        runs.run("promise 2: a node of a switch that gets another domain is logged out, one of another switch is not",
            "attach 0 0; attach 1 1; zone 0 0 true; zone 0 1 true; login 0 = 100; login 1 = 101; link 0 1 1 = -1",
            "address 0 = 100; address 1 = -1; house 3 = 1; names 0 =; login 1 = 201; names 0 = 201; names 1 = 100",
            "unlink 0 1 = 1; address 1 = 201; ofSwitch 1 2 = 2; names 1 =; link 0 1 5; address 1 = 201; names 1 = 100");
        runs.run("promise 2: fabrics have domains for themselves",
            "link 0 1 1; link 2 3 1; ofSwitch 0 2 = 1; ofSwitch 1 2 = 2; ofSwitch 2 2 = 1; ofSwitch 3 2 = 2",
            "house 1 = 2; ofSwitch 3 3 = 2; ofSwitch 1 3 = 0; ofSwitch 0 4 = 3; ofSwitch 3 4 = 12");
        runs.run("promise 6: a new principal alone gives nobody another domain",
            "link 0 1 1; priority 1 1 = 1; ofSwitch 0 2 = 1; ofSwitch 1 2 = 2; ofSwitch 0 3 = 1");
    }

    private static void fallsAndRises(Runs runs) {
        runs.run("promise 4: a switch falls, and who was logged in there is logged out", Runs.PAIR,
            "attach 6 1; fall 1 = 2; ofSwitch 1 0 = 0; ofSwitch 1 2 = 2; ofSwitch 1 3 = -1; ofSwitch 1 4 = 0",
            "ofSwitch 1 6 = 112; address 4 = -1; address 0 = 100; house 0 = 3; house 1 = 3; house 3 = 2; at 4 = 1",
            "far 0 1 = -1; way 0 1 = -1; far 1 1 = 0; way 1 1 = 1; cost 0 1 = 2; house 2 = 1; fall 2 = 0; house 0 = 2");
        runs.run("promise 4: wrong calls", "fall 2; fall -1 = " + INDEX, "fall 4 = " + INDEX, "fall 2 = " + STATE,
            "fall 2147483647 = " + INDEX, "fall 3 = 0; house 0 = 2");
        runs.run("promise 4: frames in the buffers of all its lines are dropped, and leaks stay",
            Runs.PAIR, "link 1 2 1; attach 2 2; zone 0 2 true; login 2; leak 1 4 0; leak 1 4 0; leak 0 0 0; leak 2 0 1",
            "leak 2 1 0; control 0 0 0 4 = 1; control 2 0 0 4 = 2; tick 1 = 4; buffer 2 0 1 = 1>0; buffer 2 2 1 = 2>0",
            "ofSwitch 1 5 = 2; fall 1 = 2; ofSwitch 1 5 = 0; house 8 = 0; house 12 = 5; credits 2 0 1 = 1",
            "credits 2 2 1 = 2; credits 1 4 0 = 0; credits 2 1 0 = 1; told 0 0 = lost; told 2 0 = lost; recover = 5");
        runs.run("promise 4: frames on their way through a switch that falls are dropped, though their nodes see "
                + "each other", TWO_WAYS,
            "leak 2 1 2; leak 2 1 2; control 0 0 0 4 = 1; tick 1 = 2; buffer 2 0 1 = 1>0; link 3 0 1; fall 3",
            "buffer 2 0 1 = 1>0; fall 1 = 0; buffer 2 0 1 =; credits 2 0 1 = 2; house 8 = 0; told 0 0 = open",
            "tick 5 = 0; control 0 1 0 4 = 2; tick 3; told 0 1 = good");
        runs.run("promise 4: likewise those that crossed it just now, and no others", TWO_WAYS,
            "leak 1 4 0; leak 1 4 0; write 0 0 0 0 1 5 = 1; tick 1 = 3; buffer 2 1 2 = 1>0; leak 2 0 1; leak 2 0 1",
            "tick 1 = 1; buffer 0 0 0 = 1>1; fall 1 = 0; buffer 2 1 2 =; credits 2 1 2 = 2; buffer 0 0 0 = 1>1",
            "house 8 = 1; recover; tick 2; told 0 0 = lost");
        runs.run("promise 4: others go on, and a line of a switch that is down is crossed by none", Runs.PAIR,
            "attach 6 0; zone 0 6 true; login 6; path 0 0 = 4; fall 1 = 2; path 0 0 = 6; control 0 0 0 4 = 1",
            "control 1 0 1 4 = 2; tick 3; told 0 0 = good; told 1 0 = open; tick 1; told 1 0 = good; fall 0 = 3",
            "credits 0 0 0 = 2; credits 2 0 1 = 2; control 0 0 0 4 = -9; house 3 = 0; tick 2 = 0");
        runs.run("promise 5: a switch rises with its domain, and later ones give way to it",
            "link 0 1 1; fall 1 = 0; link 0 2 1; ofSwitch 2 2 = 2; attach 3 2; login 3 = 203; rise 1 = 2",
            "ofSwitch 1 2 = 2; ofSwitch 2 2 = 3; address 3 = -1; ofSwitch 1 0 = 1; house 0 = 4");
        runs.run("promise 5: or it gives way to those ahead",
            "link 0 1 1; fall 1; link 0 2 1; priority 2 1 = 2; ofSwitch 1 2 = 2; rise 1 = 3; ofSwitch 2 2 = 2",
            "way 1 2 = 0");
        runs.run("promise 5: nobody is logged in by that, nodes log in again", Runs.PAIR,
            "fall 1 = 2; rise 1 = 2; address 4 = -1; house 3 = 2; login 4 = 204; path 0 0 = 4; path 0 1 = 4");
        runs.run("promise 5: wrong calls", "fall 2; rise -1 = " + INDEX, "rise 4 = " + INDEX, "rise 1 = " + STATE,
            "rise 2 = 1; rise 2 = " + STATE);
    }

    private static void priorities(Runs runs) {
        runs.run("promise 6: the smallest priority is principal, of several the smallest switch",
            "link 0 1 1; link 1 2 1; priority 2 4 = 2; ofSwitch 0 3 = 2; priority 1 4 = 1; ofSwitch 2 3 = 1",
            "priority 0 9 = 1; priority 1 9 = 2; priority 2 9 = 0; ofSwitch 0 1 = 9; priority 3 1 = 3",
            "ofSwitch 0 3 = 0; priority 0 1 = 0; fall 0 = 0; ofSwitch 0 3 = -1; priority 0 2 = -1; ofSwitch 0 1 = 2",
            "ofSwitch 1 3 = 1");
        runs.each("promise 6: no such switch goes ahead of a wrong priority", "link 0 1 2", INDEX,
            "priority -1 5", "priority 4 5", "priority 4 0", "priority -1 10");
        runs.each("promise 6: a wrong priority", "link 0 1 2", ARGUMENT, "priority 0 0", "priority 3 10",
            "priority 1 -1");
    }

    private static void attaching(Runs runs) {
        runs.run("promise 7: where a node is from now on",
            "attach 0 2 = -1; at 0 = 2; ofSwitch 2 6 = 1; attach 7 2 = -1; ofSwitch 2 6 = 129; credits 0 0 0 = 2",
            "attach 0 2 = 2; attach 0 3 = 2; ofSwitch 2 6 = 128; attach 0 -1 = 3; at 0 = -1; credits 0 0 0 = -1",
            "credits 1 0 0 = -1; attach 0 -1 = -1; attach 0 1 = -1; login 0 = 100; attach 0 1 = -9; attach 0 -1 = -9",
            "attach 0 2 = -9; at 0 = 1; house 9 = 3; logout 0 = 0; attach 0 2 = 1; fall 3; attach 0 3 = 2; at 0 = 3",
            "credits 1 0 0 = 2; login 0 = -9");
        runs.run("promise 7: lines that go have no leaks, and where it is already nothing is other",
            "attach 0 2; leak 0 0 0 = 1; leak 1 0 0 = 1; attach 0 2 = 2; credits 0 0 0 = 1; house 12 = 2",
            "attach 0 1 = 2; credits 0 0 0 = 2; credits 1 0 0 = 2; house 12 = 0; leak 1 0 0 = 1; attach 0 -1 = 1",
            "house 12 = 0; recover = 0; attach 0 1 = -1; credits 1 0 0 = 2");
        runs.each("promise 7: no such node goes ahead of a wrong switch", "attach 0 2", INDEX,
            "attach -1 0", "attach 8 0", "attach 8 4", "attach -1 -2");
        runs.each("promise 7: a wrong switch goes ahead of a refusal", "attach 0 2; login 0", ARGUMENT,
            "attach 0 4", "attach 0 -2", "attach 1 2147483647");
    }

    private static void logins(Runs runs) {
        runs.run("promise 8: a node logs in with an address, or is refused",
            "login 0 = -9; attach 0 0; login 0 = 100; login 0 = -9; link 0 1 1; attach 7 1; login 7 = 207; house 3 = 2",
            "attach 1 2; fall 2; login 1 = -9; rise 2; login 1 = 101; attach 4 0; crash 0; login 4 = -9; restart 0",
            "login 4 = 104; attach 6 0; crash 1; login 6 = 106; address 7 = -1; login 7 = -9; house 9 = 5");
        runs.each("promise 8: no such node", "attach 0 0", INDEX, "login -1", "login 8", "login -2147483648");
    }

    private static void logouts(Runs runs) {
        runs.run("promise 9: a node logs out, and what it does not see any more is lost",
            Runs.PAIR, "control 0 0 0 4 = 1; control 0 1 1 4 = 2; control 1 0 0 4 = 3; logout 4 = 2; told 0 0 = lost",
            "told 0 1 = open; told 1 0 = lost; address 4 = -1; logout 4 = -9; house 7 = 2; logout 1 = 0; logout 0 = 1",
            "house 5 = 0; house 8 = 0; house 3 = 1; at 0 = 0; logout 2 = -9; house 9 = 2");
        runs.each("promise 9: no such node", "attach 0 0", INDEX, "logout -1", "logout 8");
    }

    private static void zones(Runs runs) {
        runs.run("promise 10: nodes come into zones and go out",
            "zone 3 7 true = 1; zone 3 0 true = 2; zone 3 0 true = 2; ofZone 3 = 129; ofZone 2 = 0",
            "zone 3 7 false = 1; zone 3 7 false = 1; zone 3 0 false = 0; ofZone 3 = 0; zone 0 1 false = 0",
            "zone 1 5 true = 1; ofZone 1 = 32");
        runs.run("promise 10: two nodes see each other by any one zone, and what is not seen any more is lost",
            Runs.PAIR, "zone 1 0 true; zone 1 4 true; control 0 0 0 4 = 1; control 1 0 0 4 = 2; zone 0 4 false = 3",
            "told 0 0 = open; told 1 0 = lost; names 4 = 100; names 0 = 101 204 205; names 1 = 100 205; zone 1 0 false",
            "told 0 0 = lost; names 0 = 101 205; names 4 =");
        runs.each("promise 10: no such zone or node", "zone 0 1 true", INDEX,
            "zone -1 0 true", "zone 4 0 true", "zone 0 -1 true", "zone 0 8 false", "zone 4 8 true");
    }

    private static void notices(Runs runs) {
        runs.run("promise 44: what is seen and not seen any more, by nodes",
            Runs.PAIR, "notices 0 = 2 5 6; notices 1 = 1 5 6; notices 4 = 1 2 6; notices 5 = 1 2 5; notices 2 =",
            "logout 4 = 0; notices 0 = 2 5 6 -5; notices 4 =; login 4; notices 0 = 2 5 6 -5 5; notices 4 = 1 2 6",
            "zone 1 0 true; zone 1 4 true; notices 0 = 2 5 6 -5 5; zone 0 0 false; notices 0 = 2 5 6 -5 5 -2 -6",
            "notices 1 = 1 5 6 -5 5 -1; zone 2 0 true; zone 2 1 true; notices 0 = 2 5 6 -5 5 -2 -6 2",
            "zone 0 0 true; notices 0 = 5 6 -5 5 -2 -6 2 6; notices 5 = 1 2 5 -5 5 -1 1");
        runs.run("promise 44: a fall tells those that are left who went, by numbers",
            Runs.PAIR, "attach 2 1; zone 0 2 true; login 2; notices 0 = 2 5 6 3; link 0 2 1; fall 1 = 3",
            "notices 0 = 2 5 6 3 -3 -5 -6; notices 4 =; rise 1 = 2; notices 0 = 2 5 6 3 -3 -5 -6; login 4; login 2",
            "notices 0 = 5 6 3 -3 -5 -6 5 3");
        runs.run("promise 44: the last eight stay",
            "attach 0 0; zone 0 0 true; login 0; attach 1 0; zone 0 1 true; login 1; logout 1; login 1; logout 1",
            "login 1; logout 1; login 1; notices 0 = 2 -2 2 -2 2 -2 2; logout 1; notices 0 = 2 -2 2 -2 2 -2 2 -2",
            "login 1; notices 0 = -2 2 -2 2 -2 2 -2 2; notices 1 = 1; logout 0 = 0; notices 0 =; notices 1 = 1 -1");
        runs.run("promise 44: who is logged out by another domain, or by a controller that falls",
            "attach 0 0; attach 1 1; attach 4 0; zone 0 0 true; zone 0 1 true; zone 0 4 true; login 0; login 1",
            "login 4; notices 0 = 5; link 0 1 1; notices 0 = 5; notices 1 =; login 1; notices 0 = 5 2",
            "notices 1 = 1 5; crash 0; notices 0 = 5 2 -5; notices 1 = 1 5 -5; notices 4 =");
        runs.run("promise 44: one look tells who came and who went, both by numbers",
            "link 0 1 1; link 2 3 1; priority 2 1; attach 0 1; attach 1 2; attach 2 0; attach 3 2; attach 4 3",
            "zone 0 0 true; zone 0 1 true; zone 0 2 true; zone 0 3 true; zone 0 4 true; login 0; login 1; login 2",
            "login 3; login 4; notices 0 = 3; link 1 2 1; ofSwitch 0 2 = 3; ofSwitch 1 2 = 2; ofSwitch 2 2 = 1",
            "ofSwitch 3 2 = 4; notices 0 = 3 2 -3 4; notices 1 = 4 5 1 -5; notices 2 =; notices 4 =");
        runs.each("promise 44: no such node", "attach 0 0", INDEX, "notices -1", "notices 8");
    }

    private static void ways(Runs runs) {
        runs.run("promises 35 and 36: the least sum of costs, of several the smallest neighbour",
            "link 0 1 5; link 0 2 1; link 2 1 3; far 0 1 = 4; way 0 1 = 2; way 1 0 = 2; link 2 1 4; far 0 1 = 5",
            "way 0 1 = 1; way 1 0 = 0; link 1 3 1; far 0 3 = 6; way 0 3 = 1; way 3 0 = 1; way 1 0 = 0; link 2 3 1",
            "far 0 3 = 2; way 0 3 = 2; far 0 1 = 3; way 0 1 = 2; way 1 0 = 3; way 2 1 = 3; link 0 3 2; way 0 3 = 2",
            "way 3 0 = 0; fall 2; way 0 3 = 3; far 0 1 = 3; far 0 2 = -1; way 0 2 = -1; far 2 0 = -1; far 2 2 = 0",
            "way 2 2 = 2; far 3 3 = 0; way 3 3 = 3; unlink 1 3; unlink 0 1; far 0 1 = -1; way 1 3 = -1");
        runs.run("promise 36: the longest sums",
            "link 0 1 9; link 1 2 9; link 2 3 9; far 0 3 = 27; far 3 0 = 27; way 3 0 = 2");
        runs.each("promises 35 and 36: no such switch", "link 0 1 2", INDEX,
            "way -1 0", "way 4 0", "way 0 -1", "way 0 4", "far -1 0", "far 4 0", "far 0 -1", "far 0 4");
    }

    private static void paths(Runs runs) {
        runs.run("promise 41: the own controller's smallest port that is seen, or the other one's",
            "attach 0 0; attach 4 0; attach 5 0; attach 6 0; attach 7 0; zone 0 0 true; zone 0 4 true; zone 0 5 true",
            "zone 0 6 true; zone 0 7 true; login 0; path 0 0 = -1; login 7; path 0 0 = 7; path 0 1 = 7; login 6",
            "path 0 0 = 6; path 0 1 = 7; login 5; path 0 1 = 5; path 0 3 = 5; path 0 2 = 6; login 4; path 0 0 = 4",
            "path 0 2 = 4; zone 0 4 false; path 0 0 = 6; crash 0; path 0 0 = 5; logout 5; path 0 2 = 7; path 1 0 = -1",
            "logout 0; path 0 0 = -1");
        runs.each("promise 41: no such host or volume", Runs.PAIR, INDEX, "path -1 0", "path 4 0", "path 0 -1",
            "path 0 4");
    }

    private static void questions(Runs runs) {
        runs.run("promise 33: what is asked of a switch", Runs.PAIR,
            "leak 1 4 0; leak 1 4 0; write 0 0 0 0 3 1; manner 1 true false; write 1 1 1 0 3 1; tick 3",
            "buffer 2 0 1 = 1>0 1>1; buffer 0 0 0 = 1>2; buffer 0 1 0 = 2>0 2>1; ofSwitch 0 5 = 3; ofSwitch 1 5 = 2",
            "ofSwitch 0 6 = 3; ofSwitch 1 6 = 48; ofSwitch 2 6 = 0; ofSwitch 0 0 = 1; ofSwitch 1 1 = 5",
            "ofSwitch 1 2 = 2; ofSwitch 1 3 = 0; ofSwitch 1 4 = 3; ofSwitch 2 4 = 4");
        runs.each("promise 33: no such switch goes ahead of a wrong question", "link 0 1 2", INDEX,
            "ofSwitch -1 0", "ofSwitch 4 6", "ofSwitch 4 7", "ofSwitch -1 -1");
        runs.each("promise 33: a wrong question", "link 0 1 2", ARGUMENT, "ofSwitch 0 -1", "ofSwitch 3 7");
        runs.each("promise 34: no such switch, or both the same", "link 0 1 2", INDEX,
            "cost -1 0", "cost 4 0", "cost 0 -1", "cost 0 4", "cost 0 0", "cost 3 3");
        runs.run("promises 34, 37 to 40: costs, addresses, names, places, zones",
            Runs.PAIR, "cost 0 1 = 2; cost 1 0 = 2; cost 2 3 = -1; address 0 = 100; address 5 = 205; address 7 = -1",
            "names 0 = 101 204 205; names 4 = 100 101 205; names 6 =; at 0 = 0; at 5 = 1; at 6 = -1; ofZone 0 = 51",
            "attach 6 1; zone 0 6 true; names 0 = 101 204 205; login 6 = 206; names 0 = 101 204 205 206; unlink 0 1",
            "names 0 = 101; names 4 = 205 206; fall 0; names 1 =; address 0 = -1; at 0 = 0; ofZone 0 = 115");
        runs.each("promises 37 to 40: no such node or zone", Runs.PAIR, INDEX,
            "address -1", "address 8", "names -1", "names 8", "at -1", "at 8", "ofZone -1", "ofZone 4");
    }
}
