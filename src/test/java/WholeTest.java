/** Promises 32 and 57: knocking, and what is asked of the whole. */
public final class WholeTest {
    private static final String ARGUMENT = "IllegalArgumentException";

    public static void main(String[] args) {
        Runs runs = new Runs();
        knocks(runs);
        houses(runs);
        runs.end();
    }

    private static void knocks(Runs runs) {
        runs.run("promise 32: knocking counts with what was refused",
            "knock = 1; knock = 2; unlink 0 1 = -9; house 9 = 3; knock = 4; login 0 = -9",
            "login 8 = IndexOutOfBoundsException; knock = 6; house 9 = 6; house 4 = 0");
    }

    private static void houses(Runs runs) {
        runs.run("promise 57: the whole, in short", Runs.PAIR,
            "house 0 = 4; house 1 = 3; house 2 = 1; house 3 = 4; write 0 0 0 0 4 7 = 1; read 1 0 1 0 1 = 2",
            "house 4 = 2; house 5 = 2; house 8 = 6; house 13 = 0; tick 1 = 4; house 8 = 6; house 10 = 1; house 11 = 4",
            "tick 3 = 9; house 5 = 2; house 6 = 0; tick 3 = 11; house 5 = 1; house 6 = 1; house 7 = 0; house 8 = 2",
            "abort 1 0; house 7 = 1; house 5 = 0; house 8 = 0; house 6 = 1; leak 2 0 1; leak 0 0 0; house 12 = 2",
            "house 10 = 7; house 11 = 24; house 9 = 0; knock; house 9 = 1; fall 1; house 0 = 3; house 1 = 3",
            "house 2 = 1; house 3 = 2; house 12 = 2; house 4 = 2; link 2 3 1; house 1 = 2; house 2 = 2");
        runs.run("promise 57: both queues count", Runs.BOTH_PORTS,
            "attach 2 0; attach 3 0; attach 5 0; attach 7 0; zone 2 2 true; zone 2 5 true; zone 3 3 true",
            "zone 3 7 true; login 2; login 3; login 5; login 7; control 0 0 0 4; control 1 0 0 4; control 2 0 0 4",
            "control 3 0 0 4; tick 2; queue 0 = 2; queue 1 = 4; house 13 = 2; house 5 = 4; house 8 = 2");
        runs.each("promise 57: a wrong question", Runs.PAIR, ARGUMENT, "house -1", "house 14", "house 2147483647",
            "house -2147483648");
    }
}
