import java.lang.reflect.Array;
import java.lang.reflect.Field;
import java.util.ArrayList;
import java.util.List;

/**
 * Promise 58: no run of calls makes an object unsound, so each clause of the promise is broken from inside, by the names
 * that the fields have; then isSound must see it.
 */
public final class SoundTest {
    private static final String BUSY = "leak 1 4 0; manner 0 true false; manner 1 false true; write 0 0 0 0 4 7;"
        + "control 1 0 0 4; link 1 2 1; copy 0 0; write 0 1 1 0 1 5";
    private static final String CACHED = "control 0 0 0 4; tick 3; write 0 0 0 0 2 40; tick 9; copy 0 0";

    private int wrong;

    public static void main(String[] args) {
        SoundTest test = new SoundTest();
        test.lines();
        test.sight();
        test.exchanges();
        test.queues();
        test.ways();
        test.caches();
        test.volumes();
        if (test.wrong != 0) {
            System.exit(1);
        }
    }

    private void lines() {
        Blockfabric x = made(Runs.PAIR + ";" + BUSY + "; tick 2");
        broken("too many credits", x, "net.lines.0.credits", 3);
        broken("leaks that no credit went for", x, "net.lines.20.leaked", 1);
        broken("credits below 0", x, "net.lines.12.credits", -1);
    }

    private void sight() {
        Blockfabric x = made(Runs.PAIR + ";" + BUSY);
        broken("a node sees what was not looked at", x, "net.nodes.1.seen", 1);
        broken("the first node sees nobody by that", x, "net.nodes.0.seen", 0);
        broken("a node that is not logged in has seen", x, "net.nodes.7.seen", 1);
        broken("two domains of a fabric are alike", x, "net.domain.1", 1);
        broken("the first one is like another one", x, "net.domain.0", 2);
        broken("a frame of nodes that do not see each other", x, "net.zones.0", 0, "net.nodes.0.seen", 0,
            "net.nodes.1.seen", 0, "net.nodes.4.seen", 0, "net.nodes.5.seen", 0);
    }

    private void exchanges() {
        Blockfabric x = made(Runs.PAIR + ";" + BUSY + "; tick 3");
        broken("a frame of an exchange that is lost", x, "traffic.exchanges.0.state", 2);
        Blockfabric first = made(Runs.PAIR + "; leak 2 0 1; leak 2 0 1; control 0 0 0 4; tick 1");
        broken("a frame of an exchange that is lost, in the first line", first, "traffic.exchanges.0.state", 2);
        broken("three frames left without acks", x, "traffic.exchanges.0.left.0", 9);
        Blockfabric late = made(Runs.PAIR + "; manner 0 true false; write 0 0 0 0 4 7; tick 5");
        broken("what left is counted, and what was told of it", late, "traffic.exchanges.0.acks.0", 0);
        broken("a gap in what was taken", x, "traffic.exchanges.0.taken.0", 5);
        broken("a gap in the second sequence", x, "traffic.exchanges.0.taken.1", 2);
        twice("a frame is there twice in a row", x, "net.nodes.0.waiting");
        Blockfabric inBuffer = made(Runs.PAIR + "; control 0 0 0 4; tick 1");
        Object frame = get(inBuffer, "net.lines.12.frames.0");
        List<Object> row = list(inBuffer, "net.nodes.1.waiting");
        row.add(frame);
        unsound("a frame is there twice, in a row and in a buffer", inBuffer);
        row.clear();
        sound("a frame is there twice, in a row and in a buffer", inBuffer);
    }

    private void queues() {
        Blockfabric x = made(Runs.BOTH_PORTS + "; manner 1 false true; control 0 0 0 4; control 0 1 0 4; control 0 2 0 4;"
            + "control 1 0 0 4; control 1 1 0 4; tick 3");
        sound("an urgent command is the first one", made(Runs.BOTH_PORTS + "; manner 0 false true; manner 1 false true;"
            + "control 0 0 0 4; control 1 0 0 4; tick 2"));
        List<Object> queue = list(x, "store.controllers.0.queued");
        List<Object> before = new ArrayList<>(queue);
        Object plain = before.get(0);
        Object urgent = get(x, "traffic.exchanges.4");
        broken("a command of an exchange that is done", x, "traffic.exchanges.0.state", 0, "store.controllers.0.queued.0.state", 1);
        queue.add(urgent);
        unsound("an urgent command behind one that is not", x);
        queue.remove(urgent);
        sound("an urgent command behind one that is not", x);
        queue.add(plain);
        sound("three commands", x);
        queue.add(plain);
        unsound("more than three commands", x);
    }

    private void ways() {
        Blockfabric x = made("link 0 1 1; link 1 2 1; link 2 3 1; link 0 2 9");
        broken("a way that is longer", x, "net.ways.0.2", 2);
        broken("a way that goes in a circle", x, "net.ways.1.3", 0);
        broken("no way where one is", x, "net.ways.0.3", -1);
        broken("no way to the first switch", x, "net.ways.3.0", -1);
        broken("a sum that is not the least", x, "net.far.0.3", 11);
        Blockfabric apart = made("link 0 1 1");
        broken("a way where none is", apart, "net.ways.0.2", 1);
        broken("a sum where no way is", apart, "net.far.0.2", 7);
    }

    private void caches() {
        Blockfabric x = made(Runs.PAIR + ";" + CACHED);
        broken("another value in one cache", x, "store.controllers.1.values.1", 9);
        broken("another value in the first place of one cache", x, "store.controllers.1.values.0", 9);
        broken("another block in one cache", x, "store.controllers.1.keys.1", 31);
        broken("a shorter cache", x, "store.controllers.1.cached", 1);
        broken("a value that no command wrote", x, "store.controllers.0.values.1", 9, "store.controllers.1.values.1", 9);
        Blockfabric alone = made(Runs.PAIR + "; crash 1");
        broken("a cache of one that is alone", alone, "store.controllers.0.cached", 1);
        broken("a cache of one that is down", alone, "store.controllers.1.cached", 1);
    }

    private void volumes() {
        Blockfabric x = made(Runs.PAIR + ";" + CACHED + "; drain 1; breakSide 1 1; mend 1 1");
        broken("sides that are unlike", x, "store.volumes.0.sides.1.values.0", 9);
        broken("likewise where the other one is read", x, "store.volumes.0.sides.0.values.1", 9);
        broken("both sides have what was not stored", x, "store.volumes.0.sides.0.values.1", 9,
            "store.volumes.0.sides.1.values.1", 9);
        broken("a side that is not in step is unlike without a mark", x, "store.volumes.1.sides.1.values.3", 9);
        broken("likewise at the first block", x, "store.volumes.1.sides.1.values.0", 9);
        broken("no side is fit and in step", x, "store.volumes.2.sides.0.isInStep", false,
            "store.volumes.2.sides.1.isFit", false);
        broken("a value that no command wrote", x, "store.volumes.3.written.7", 9);
        broken("a copy tells what was not read", x, "store.volumes.0.copies.0.values.0", 9,
            "store.volumes.0.copies.0.kept", 1);
    }

    private static Blockfabric made(String run) {
        Calls calls = new Calls(Blockfabric.class);
        for (String call : run.split(";")) {
            calls.answer(call);
        }
        return (Blockfabric) calls.object();
    }

    /** Sets fields by their paths, each with its value, and sets them back. */
    private void broken(String title, Blockfabric x, Object... pathsAndValues) {
        sound(title, x);
        Object[] before = new Object[pathsAndValues.length];
        for (int i = 0; i < before.length; i += 2) {
            before[i] = get(x, (String) pathsAndValues[i]);
            set(x, (String) pathsAndValues[i], pathsAndValues[i + 1]);
        }
        unsound(title, x);
        for (int i = 0; i < before.length; i += 2) {
            set(x, (String) pathsAndValues[i], before[i]);
        }
        sound(title, x);
    }

    private void twice(String title, Blockfabric x, String path) {
        sound(title, x);
        List<Object> list = list(x, path);
        list.add(list.get(0));
        unsound(title, x);
        list.remove(list.size() - 1);
        sound(title, x);
    }

    private void sound(String title, Blockfabric x) {
        if (!x.isSound()) {
            tell(title + ": isSound answered false where nothing is broken");
        }
    }

    private void unsound(String title, Blockfabric x) {
        if (x.isSound()) {
            tell(title + ": isSound answered true");
        }
    }

    private void tell(String text) {
        wrong++;
        System.out.println("promise 58: " + text);
    }

    @SuppressWarnings("unchecked")
    private static List<Object> list(Object of, String path) {
        return (List<Object>) get(of, path);
    }

    private static Object get(Object of, String path) {
        Object at = of;
        for (String word : path.split("\\.")) {
            at = part(at, word);
        }
        return at;
    }

    private static Object part(Object of, String word) {
        if (of instanceof List<?> list) {
            return list.get(Integer.parseInt(word));
        }
        if (of.getClass().isArray()) {
            return Array.get(of, Integer.parseInt(word));
        }
        try {
            return field(of, word).get(of);
        } catch (ReflectiveOperationException e) {
            throw new IllegalStateException(word, e);
        }
    }

    private static Field field(Object of, String name) throws NoSuchFieldException {
        Field field = of.getClass().getDeclaredField(name);
        field.setAccessible(true);
        return field;
    }

    private static void set(Object of, String path, Object value) {
        int dot = path.lastIndexOf('.');
        Object holder = get(of, path.substring(0, dot));
        String word = path.substring(dot + 1);
        try {
            if (holder.getClass().isArray()) {
                Array.set(holder, Integer.parseInt(word), value);
            } else {
                field(holder, word).set(holder, value);
            }
        } catch (ReflectiveOperationException e) {
            throw new IllegalStateException(path, e);
        }
    }
}
