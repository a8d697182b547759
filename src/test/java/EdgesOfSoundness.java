import java.util.ArrayList;
import java.util.List;

/**
 * Promise 58, clause by clause: no run of calls makes an object unsound, so each clause is broken from inside, by the
 * names that the fields have, just beyond the last state that is sound; then isSound must see it.
 */
final class EdgesOfSoundness {
    private static final String PART = "promise 58";
    private static final String BUSY = "leak 1 4 0; manner 0 true false; manner 1 false true; write 0 0 0 0 4 7;"
        + "control 1 0 0 4; link 1 2 1; copy 0 0; write 0 1 1 0 1 5";
    private static final String CACHED = "control 0 0 0 4; tick 3; write 0 0 0 0 2 40; tick 9; copy 0 0";
    private static final String ONE = "attach 0 0; attach 4 0; zone 0 0 true; zone 0 4 true; login 0; login 4;";

    private final Sentences sentences;

    private EdgesOfSoundness(Sentences sentences) {
        this.sentences = sentences;
    }

    /** What is inside is free: of a program that is written in another way, only what it answers can be tried. */
    static void all(Sentences sentences) {
        if (!Inside.hasOneOf(Blockfabric.class, "net", "traffic", "store")) {
            System.out.println("promise 58 is not tried from inside, since no field is known");
            sentences.need(PART, sentences.document().line(PART, "Returns "));
            return;
        }
        EdgesOfSoundness edges = new EdgesOfSoundness(sentences);
        edges.credits();
        edges.acked();
        edges.sight();
        edges.queues();
        edges.frames();
        edges.framesTwice();
        edges.domains();
        edges.gaps();
        edges.ways();
        edges.caches();
        edges.values();
        edges.sides();
        edges.copies();
        edges.checksum();
    }

    private void credits() {
        String clause = "CREDITS, FRAMES (and ACKS) and LEAKED CREDITS of each LINE are two together";
        Blockfabric x = made(Runs.PAIR + ";" + BUSY + "; tick 2; leak 2 0 1; leak 2 0 1; leak 0 5 0");
        broken(clause, "a credit too many", x, "net.lines.0.credits", 3);
        broken(clause, "a credit too few", x, "net.lines.4.credits", 1);
        broken(clause, "a leak that no credit went for", x, "net.lines.20.leaked", 1);
        broken(clause, "a leak too few", x, "net.lines.5.leaked", 0);
        broken(clause, "a credit below 0", x, "net.lines.17.credits", -1);
        broken(clause, "a credit below 0, though they are two together", x, "net.lines.17.credits", -1,
            "net.lines.17.leaked", 3);
        broken(clause, "the last line", x, "net.lines.30.credits", 1);
        Blockfabric full = made(Runs.PAIR + "; leak 1 4 0; leak 1 4 0; write 0 0 0 0 4 7; tick 5");
        broken(clause, "a credit for a frame's place", full, "net.lines.17.credits", 1);
        sound(clause, "a leak, a frame and no credit", made(ONE + "leak 1 4 0; control 0 0 0 4; tick 1"));
    }

    private void acked() {
        String clause = "of each ACKED SEQUENCE at most two FRAMES left the row without that their ACK was TAKEN";
        Blockfabric forth = made(ONE + "manner 0 true false; leak 1 0 0; leak 1 0 0; write 0 0 0 0 4 7; tick 5");
        broken(clause, "three without an ack", forth, "traffic.exchanges.0.left.0", 3);
        sound(clause, "one without an ack", made(ONE + "manner 0 true false; write 0 0 0 0 4 7; tick 1"));
        Blockfabric later = made(ONE + "manner 0 true false; write 0 0 0 0 4 7; tick 5");
        broken(clause, "three without an ack, as fewer were taken", later, "traffic.exchanges.0.acks.0", 1);
        Blockfabric held = made(ONE + "manner 0 true false; write 0 0 0 0 4 7; tick 2; leak 0 4 0; leak 0 4 0; tick 1");
        broken(clause, "three frames left, one ack", held, "traffic.exchanges.0.acks.0", 0);
        Blockfabric back = made(ONE + "manner 0 true false; read 0 0 0 0 4; tick 3; leak 0 0 0; leak 0 0 0; tick 5");
        broken(clause, "three of the second sequence", back, "traffic.exchanges.0.left.1", 3);
        Blockfabric free = made(ONE + "leak 1 4 0; leak 1 4 0; leak 0 0 0; write 0 0 0 0 4 7; recover; tick 6");
        sound(clause, "five of one that is not acked", free);
        Blockfabric second = made(Runs.PAIR
                + "; leak 1 0 0; leak 1 0 0; control 0 0 0 4; manner 1 true false; write 1 0 0 0 4 7; tick 5");
        broken(clause, "three of the second exchange", second, "traffic.exchanges.1.left.0", 5);
    }

    private void sight() {
        String clause = "what a NODE SEES is what was looked at last";
        Blockfabric x = made(Runs.PAIR + ";" + BUSY);
        broken(clause, "one too few is seen", x, "net.nodes.1.seen", 1);
        broken(clause, "the first node sees nobody", x, "net.nodes.0.seen", 0);
        broken(clause, "the last node has seen, and is not logged in", x, "net.nodes.7.seen", 1);
        broken(clause, "a node sees itself", x, "net.nodes.4.seen", 51);
    }

    private void queues() {
        String clause = "QUEUES have COMMANDS of OPEN EXCHANGES alone, at most three, URGENT ones ahead";
        Blockfabric x = made(Runs.BOTH_PORTS
                + "; manner 1 false true; control 0 0 0 4; control 0 1 0 4; control 0 2 0 4;"
                + "control 1 0 0 4; control 1 1 0 4; tick 3");
        broken(clause, "a command of one that is done", x, "traffic.exchanges.0.state", 0,
            "store.controllers.0.queued.0.state", 1);
        broken(clause, "a command of one that is lost", x, "store.controllers.0.queued.1.state", 2);
        List<Object> queue = Inside.list(x, "store.controllers.0.queued");
        Object plain = queue.get(0);
        Object urgent = Inside.get(x, "traffic.exchanges.4");
        queue.add(urgent);
        unsound(clause, "an urgent one behind one that is not", x);
        queue.remove(urgent);
        queue.add(0, urgent);
        sound(clause, "an urgent one ahead, three together", x);
        queue.add(plain);
        unsound(clause, "four", x);
        queue.remove(0);
        queue.remove(0);
        sound(clause, "two that are not urgent", x);
        List<Object> other = Inside.list(x, "store.controllers.1.queued");
        other.addAll(List.of(plain, urgent));
        unsound(clause, "an urgent one behind, at the second controller", x);
        other.clear();
        other.addAll(List.of(urgent, plain, plain, plain));
        unsound(clause, "four, at the second controller", x);
        other.clear();
        sound(clause, "the second one is empty again", x);
    }

    private void frames() {
        String open = "each FRAME is of an EXCHANGE that is OPEN";
        Blockfabric x = made(Runs.PAIR + ";" + BUSY + "; tick 3");
        broken(open, "in rows and buffers", x, "traffic.exchanges.0.state", 2);
        broken(open, "of one that is done", x, "traffic.exchanges.0.state", 1);
        Blockfabric row = made(Runs.PAIR + "; control 1 0 0 4");
        broken(open, "in a row alone", row, "traffic.exchanges.0.state", 2);
        Blockfabric line = made(Runs.PAIR + "; leak 2 0 1; leak 2 0 1; control 0 0 0 4; tick 1");
        broken(open, "in the first line alone", line, "traffic.exchanges.0.state", 2);
        Blockfabric last = made(
            "link 3 2 1; attach 0 3; attach 4 2; zone 0 0 true; zone 0 4 true; login 0; login 4; leak 1 4 0;"
                + " leak 1 4 0;" + "control 0 0 0 4; tick 1");
        broken(open, "between switches", last, "traffic.exchanges.0.state", 2);
        String see = "of NODES that SEE each other";
        broken(see, "no zone has both", x, "net.zones.0", 0, "net.nodes.0.seen", 0, "net.nodes.1.seen", 0,
            "net.nodes.4.seen", 0, "net.nodes.5.seen", 0);
    }

    private void framesTwice() {
        String clause = "and of each EXCHANGE no FRAME is there twice";
        Blockfabric x = made(Runs.PAIR + ";" + BUSY + "; tick 3");
        List<Object> row = Inside.list(x, "net.nodes.0.waiting");
        row.add(row.get(0));
        unsound(clause, "in one row", x);
        row.remove(row.size() - 1);
        sound(clause, "in one row", x);
        Blockfabric inBuffer = made(Runs.PAIR + "; control 0 0 0 4; tick 1");
        List<Object> other = Inside.list(inBuffer, "net.nodes.1.waiting");
        other.add(Inside.get(inBuffer, "net.lines.12.frames.0"));
        unsound(clause, "in a row and in a buffer", inBuffer);
        other.clear();
        sound(clause, "in a row and in a buffer", inBuffer);
        String acked = ONE + "manner 0 true false; leak 0 4 0; leak 0 4 0; ";
        sound(clause, "an ack of the first frame, and the first frame of the second sequence",
            made(acked + "control 0 0 0 4; tick 2"));
        Blockfabric acks = made(acked + "write 0 0 0 0 1 7; tick 3");
        List<Object> ofPort = Inside.list(acks, "net.nodes.4.waiting");
        sound(clause, "two acks and a frame", acks);
        ofPort.add(ofPort.get(1));
        unsound(clause, "an ack", acks);
        sound(clause, "all frames that an exchange can have",
            made(acked + "manner 0 false false; leak 1 4 0; leak 1 4 0; read 0 0 0 0 4; write 0 1 0 0 4 7; recover;"
                + "leak 0 4 0; leak 0 4 0; tick 3"));
    }

    private void domains() {
        String clause = "DOMAINS of a FABRIC are unlike";
        Blockfabric x = made(Runs.PAIR + ";" + BUSY);
        broken(clause, "the second like the first", x, "net.domain.1", 1);
        broken(clause, "the first like the second", x, "net.domain.0", 2);
        broken(clause, "the third like the second", x, "net.domain.2", 2);
        sound(clause, "those of two fabrics may be alike", made("link 0 1 1; link 2 3 1"));
        Blockfabric apart = made("link 2 3 1");
        broken(clause, "of the last two", apart, "net.domain.3", 1);
    }

    private void gaps() {
        String clause = "each SEQUENCE was TAKEN from its first FRAME on, without a gap";
        Blockfabric x = made(Runs.PAIR + ";" + BUSY + "; tick 3");
        broken(clause, "the second one was not taken", x, "traffic.exchanges.0.taken.0", 5);
        broken(clause, "the first one was not taken", x, "traffic.exchanges.0.taken.0", 2);
        broken(clause, "the first one of the second sequence was not taken", x, "traffic.exchanges.0.taken.1", 2);
        broken(clause, "of the last exchange", x, "traffic.exchanges.2.taken.0", 4);
    }

    private void ways() {
        String clause = "WAYS are as long as a search over all rows of SWITCHES tells";
        Blockfabric x = made("link 0 1 1; link 1 2 1; link 2 3 1; link 0 2 9");
        broken(clause, "a longer one", x, "net.ways.0.2", 2);
        broken(clause, "one in a circle", x, "net.ways.1.3", 0);
        broken(clause, "none where one is", x, "net.ways.0.3", -1);
        broken(clause, "none to the first switch", x, "net.ways.3.0", -1);
        broken(clause, "a sum above the least", x, "net.far.0.3", 4);
        broken(clause, "a sum below the least", x, "net.far.0.3", 2);
        Blockfabric apart = made("link 0 1 1");
        broken(clause, "one where none is", apart, "net.ways.0.2", 1);
        broken(clause, "a sum where none is", apart, "net.far.0.2", 7);
    }

    private void caches() {
        String same = "both CACHES are the same, if both CONTROLLERS are UP";
        Blockfabric x = made(Runs.PAIR + ";" + CACHED);
        broken(same, "another value", x, "store.controllers.1.values.1", 9);
        broken(same, "another value in the first place", x, "store.controllers.1.values.0", 9);
        broken(same, "another block", x, "store.controllers.1.keys.1", 31);
        broken(same, "one less", x, "store.controllers.1.cached", 1);
        String empty = "otherwise both empty";
        Blockfabric first = made(Runs.PAIR + "; crash 1");
        broken(empty, "that of one that is alone", first, "store.controllers.0.cached", 1);
        broken(empty, "that of one that is down", first, "store.controllers.1.cached", 1);
        Blockfabric second = made(Runs.PAIR + "; crash 0");
        broken(empty, "that of the second one alone", second, "store.controllers.1.cached", 1);
        Blockfabric none = made(Runs.PAIR + "; crash 1; crash 0");
        broken(empty, "both are down", none, "store.controllers.0.cached", 1, "store.controllers.1.cached", 1);
    }

    private void values() {
        String clause = "VALUES are what the COMMANDS that were DONE by the array and REVERTING, one behind the other, "
                + "wrote";
        Blockfabric x = made(Runs.PAIR + ";" + CACHED + "; revert 0 0; drain 1");
        broken(clause, "another one in both caches", x, "store.controllers.0.values.1", 9,
            "store.controllers.1.values.1", 9);
        broken(clause, "another one was written last", x, "store.volumes.3.written.7", 9);
        broken(clause, "at the first block", x, "store.volumes.0.written.0", 9);
    }

    private void sides() {
        Blockfabric x = made(Runs.PAIR + ";" + CACHED + "; drain 1; breakSide 1 1; mend 1 1");
        String same = "SIDES that are FIT and IN STEP are the same, and without what is in the CACHES what was STORED";
        broken(same, "the second one is unlike", x, "store.volumes.0.sides.1.values.0", 9);
        broken(same, "the first one is unlike", x, "store.volumes.0.sides.0.values.1", 9);
        broken(same, "both have what was not stored", x, "store.volumes.0.sides.0.values.1", 9,
            "store.volumes.0.sides.1.values.1", 9);
        broken(same, "the last block of the last volume", x, "store.volumes.3.sides.1.values.7", 9);
        String behind = "a SIDE that is not IN STEP has what the other one has, but for its MARKS";
        broken(behind, "a block without a mark", x, "store.volumes.1.sides.1.values.3", 9);
        broken(behind, "the first block", x, "store.volumes.1.sides.1.values.0", 9);
        Blockfabric marked = made(Runs.PAIR + ";" + CACHED + "; breakSide 0 0; drain 1");
        broken(behind, "the mark is gone, the value is another one", marked, "store.volumes.0.sides.0.marks", 0);
        String each = "each VOLUME has a SIDE that is FIT and IN STEP";
        broken(each, "one is not in step, the other one is not fit", x, "store.volumes.2.sides.0.isInStep", false,
            "store.volumes.2.sides.1.isFit", false);
        broken(each, "none is in step", x, "store.volumes.3.sides.0.isInStep", false,
            "store.volumes.3.sides.1.isInStep", false);
        sound(each, "one is", made("breakSide 0 0; breakSide 1 1; breakSide 2 0; breakSide 3 1; mend 1 1; mend 2 0"));
    }

    private void copies() {
        String clause = "and COPIES tell what was READ as they were made.";
        Blockfabric x = made(Runs.PAIR + ";" + CACHED + "; copy 0 1; write 0 0 0 1 1 5; tick 9; copy 3 1");
        broken(clause, "what it kept is another one", x, "store.volumes.0.copies.0.values.1", 9);
        broken(clause, "likewise of the second copy", x, "store.volumes.0.copies.1.values.1", 9);
        broken(clause, "what it did not keep is another one", x, "store.volumes.0.copies.0.kept", 0);
        broken(clause, "what was read is another one", x, "store.volumes.3.copies.1.asMade.7", 9);
        sound(clause, "one that is not there tells nothing", made("copy 0 0; forget 0 0"));
    }

    private void checksum() {
        Blockfabric x = made(Runs.PAIR + ";" + CACHED);
        long sound = x.digest();
        Inside.set(x, "store.volumes.3.written.7", 9);
        if (x.digest() != sound - 1) {
            sentences.wrong("promise 59", "1 if isSound(), otherwise 0.", "the last of the numbers is not 0");
        }
    }

    private static Blockfabric made(String run) {
        Calls calls = new Calls(Blockfabric.class);
        for (String call : Runs.calls(run)) {
            calls.answer(call);
        }
        return (Blockfabric) calls.object();
    }

    /** Sets fields by their paths, each with its value, and sets them back. */
    private void broken(String clause, String how, Blockfabric x, Object... pathsAndValues) {
        sound(clause, how, x);
        List<Object> before = new ArrayList<>();
        for (int i = 0; i < pathsAndValues.length; i += 2) {
            before.add(Inside.get(x, (String) pathsAndValues[i]));
            Inside.set(x, (String) pathsAndValues[i], pathsAndValues[i + 1]);
        }
        unsound(clause, how, x);
        for (int i = 0; i < pathsAndValues.length; i += 2) {
            Inside.set(x, (String) pathsAndValues[i], before.get(i / 2));
        }
        sound(clause, how, x);
    }

    private void sound(String clause, String how, Blockfabric x) {
        sentences.need(PART, clause);
        if (!x.isSound()) {
            sentences.wrong(PART, clause, how + ": isSound answered false where nothing is broken");
        }
    }

    private void unsound(String clause, String how, Blockfabric x) {
        if (x.isSound()) {
            sentences.wrong(PART, clause, how + ": isSound answered true");
        }
    }
}
