import com.sun.management.ThreadMXBean;
import java.lang.management.ManagementFactory;

/**
 * LANGUAGE.md, rule 12: what some 512 calls on one object make is little. It is measured in bytes: since each object
 * has more than twelve of them and each field and element at least one, a million is far inside a room of 600,000
 * objects and 7.3 million fields and elements.
 */
public final class RoomTest {
    private static final long BYTES_AT_MOST = 1_000_000;
    private static final int CALLS = 512;
    private static final int MANNERS = 12;

    private final Blockfabric x = new Blockfabric();
    private int calls;

    public static void main(String[] args) {
        if (!(ManagementFactory.getThreadMXBean() instanceof ThreadMXBean bean)
            || !bean.isThreadAllocatedMemorySupported()) {
            System.out.println("what is made can not be measured here");
            return;
        }
        bean.setThreadAllocatedMemoryEnabled(true);
        boolean isWrong = false;
        for (int manner = 0; manner < MANNERS; manner++) {
            run(manner);
            long before = bean.getCurrentThreadAllocatedBytes();
            run(manner);
            long made = bean.getCurrentThreadAllocatedBytes() - before;
            if (made > BYTES_AT_MOST) {
                isWrong = true;
                System.out.println("rule 12: run " + manner + " made " + made + " bytes");
            }
        }
        if (isWrong) {
            System.exit(1);
        }
    }

    private static void run(int manner) {
        RoomTest test = new RoomTest();
        test.raise();
        while (test.calls < CALLS) {
            test.call(manner, test.calls);
            test.calls++;
        }
    }

    private void raise() {
        for (int which = 1; which < 4; which++) {
            x.link(which - 1, which, 1);
        }
        for (int node = 0; node < 8; node++) {
            x.attach(node, node < 4 ? 0 : 3);
            x.zone(0, node, true);
            x.login(node);
        }
        for (int host = 0; host < 4; host++) {
            x.manner(host, true, host == 0);
        }
        x.copy(0, 0);
        calls = 32;
    }

    private void call(int manner, int i) {
        switch (manner) {
            case 0:
                everyOther(i, x.digest());
                break;
            case 1:
                everyOther(i, x.isSound() ? 1 : 0);
                break;
            case 2:
                everyOther(i, x.row(i % 8).length());
                break;
            case 3:
                everyOther(i, x.cache(i % 2).length());
                break;
            case 4:
                everyOther(i, x.values(i % 4).length());
                break;
            case 5:
                everyOther(i, x.told(i % 4, 0).length());
                break;
            case 6:
                everyOther(i, x.names(i % 8).length() + x.notices(i % 8).length() + x.buffer(2, 0, 1).length());
                break;
            case 7:
                everyOther(i, x.login(i % 8) + x.logout(i % 8));
                break;
            case 8:
                everyOther(i, i % 4 < 2 ? x.fall(i % 2) : x.rise(i % 2));
                break;
            case 9:
                everyOther(i, x.revert(0, 0) + x.drain(32));
                break;
            case 10:
                everyOther(i, x.link(i % 3, 3, 1 + i % 9) + x.unlink(i % 3, 3));
                break;
            default:
                send(i);
                break;
        }
    }

    /** Behind some commands, so that there is much to tell; the answer is not looked at. */
    private void everyOther(int i, long answer) {
        if (i < 64) {
            send(i);
        } else if (answer == Long.MIN_VALUE) {
            throw new IllegalStateException();
        }
    }

    private void send(int i) {
        if (i % 17 == 16) {
            x.tick(20);
        } else if (i % 2 == 0) {
            x.write(i % 4, i / 4 % 4, i % 4, 4 * (i / 16 % 2), 4, 990);
        } else {
            x.read(i % 4, i / 4 % 4, i % 4, 4, 4);
        }
    }
}
