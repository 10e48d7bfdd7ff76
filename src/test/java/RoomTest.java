import java.lang.management.ManagementFactory;

/** All calls of one run live in one room: the dearest runs of 512 calls make little. */
public final class RoomTest {
    // An object takes 16 bytes at least and a field one: so many bytes are less than a ninetieth of the room's 600,000
    // objects and a seventieth of its 7,300,000 fields.
    private static final long MOST_BYTES = 100_000;
    private static final int MOST_CALLS = 512, ITEMS = 60, DEVICES = 8, ROWS = 30;
    private static final Checks c = new Checks("RoomTest");

    public static void main(String[] args) {
        Runnable[] runs = {RoomTest::cutAndBack, RoomTest::cutAndJoined, RoomTest::manyRows, RoomTest::consents};
        for (int i = 0; i < runs.length; i++) {
            // Once beforehand, so that what the machine makes of its own at a first call is not counted.
            runs[i].run();
            long before = made();
            runs[i].run();
            long bytes = made() - before;
            c.due("run " + i + " makes " + bytes + " bytes: few enough", bytes <= MOST_BYTES, true);
            c.due("run " + i + " is counted", bytes > 0, true);
        }
        c.end();
    }

    private static long made() {
        var threads = (com.sun.management.ThreadMXBean) ManagementFactory.getThreadMXBean();
        return threads.getThreadAllocatedBytes(Thread.currentThread().getId());
    }

    private static DoorActs withAllItems() {
        DoorActs x = new DoorActs();
        for (int item = 1; item <= ITEMS; item++) {
            x.item(0, 1);
        }
        return x;
    }

    private static void cutAndBack() {
        DoorActs x = withAllItems();
        for (int call = ITEMS; call < MOST_CALLS; call += 2) {
            x.cut(call / 2 % DEVICES, true);
            x.cut(call / 2 % DEVICES, false);
        }
    }

    private static void cutAndJoined() {
        DoorActs x = withAllItems();
        for (int call = ITEMS; call < MOST_CALLS; call += 3) {
            int device = call / 3 % DEVICES;
            x.cut(device, true);
            x.act(device, 1 + call % ITEMS, Acts.DAMAGE, -1, -1, 0);
            x.join(device);
        }
    }

    /** All devices are off line with as many rows as they may have, and most rows clash. */
    private static void manyRows() {
        DoorActs x = withAllItems();
        for (int device = 0; device < DEVICES; device++) {
            x.cut(device, true);
            for (int item = 1; item <= ROWS; item++) {
                x.act(device, item, Acts.DAMAGE, -1, -1, 0);
            }
        }
        for (int device = 0; device < DEVICES; device++) {
            x.join(device);
        }
        for (int i = 0; i < 7 * ROWS - DEVICES; i++) {
            x.clash(i, 1);
        }
    }

    private static void consents() {
        DoorActs x = withAllItems();
        for (int i = 0; i < MOST_CALLS - ITEMS; i++) {
            x.consent(i % 100, i / 100 % 3, (i + 1) % 100);
        }
    }
}
