import java.util.function.IntUnaryOperator;
import java.util.function.LongToIntFunction;

/**
 * Every number of every call: the least and the most that is as said, one beyond it each way, and far beyond it. Each
 * one is asked for on an object of its own.
 */
public final class RangesTest {
    private static final int OUTSIDE = DoorActs.OUTSIDE, UNKNOWN = DoorActs.UNKNOWN, STATE = DoorActs.STATE;
    private static final int NONE = -1, LAST_PERSON = 99;
    private static final long LAST_TIME = 1000000000L, LAST_DAY = 1000000L;
    private static final Checks c = new Checks("RangesTest");

    public static void main(String[] args) {
        item();
        consent();
        for (boolean off : new boolean[] {false, true}) {
            actItems(off);
            actDevicesAndKinds(off);
            actPersons(off);
            actProofs(off);
            actTimes(off);
            actTimesBefore(off);
        }
        join();
        clash();
        cut();
        itemsOfTheOthers();
        tick();
        slip();
        cash();
        c.end();
    }

    private static void ints(String what, int low, int atLow, int high, int atHigh, int beyond, IntUnaryOperator ask) {
        c.due(what + ", the least", ask.applyAsInt(low), atLow);
        c.due(what + ", the most", ask.applyAsInt(high), atHigh);
        int[] others = {low - 1, high + 1, low - 2, high + 2, low + 256, low - 256, low + 65536, low - 65536,
            Integer.MIN_VALUE, Integer.MIN_VALUE + 1, Integer.MAX_VALUE, Integer.MAX_VALUE - 1};
        for (int other : others) {
            if (other < low || other > high) {
                c.due(what + " " + other, ask.applyAsInt(other), beyond);
            }
        }
    }

    private static void longs(String what, long low, int atLow, long high, int atHigh, LongToIntFunction ask) {
        c.due(what + ", the least", ask.applyAsInt(low), atLow);
        c.due(what + ", the most", ask.applyAsInt(high), atHigh);
        // One that is cut off to 32 bits would be as said again.
        long[] others = {low - 1, high + 1, low - 2, high + 2, low + (1L << 32), high + (1L << 32), low - (1L << 32),
            high - (1L << 32), Long.MIN_VALUE, Long.MIN_VALUE + low, Long.MAX_VALUE, Long.MAX_VALUE - 1};
        for (long other : others) {
            c.due(what + " " + other, ask.applyAsInt(other), OUTSIDE);
        }
    }

    private static DoorActs withItems(int count, int service, int receiver) {
        DoorActs x = new DoorActs();
        for (int i = 0; i < count; i++) {
            x.item(service, receiver);
        }
        return x;
    }

    private static void item() {
        ints("item's service", 0, 1, 5, 1, OUTSIDE, v -> new DoorActs().item(v, 1));
        ints("item's receiver", 0, 1, LAST_PERSON, 1, OUTSIDE, v -> new DoorActs().item(0, v));
        for (int service = 0; service <= 5; service++) {
            c.due("service " + service, new DoorActs().item(service, 1), 1);
        }
    }

    private static void consent() {
        for (int kind = 0; kind <= 1; kind++) {
            int k = kind;
            ints("consent's person", 0, 1, LAST_PERSON, 1, OUTSIDE, v -> new DoorActs().consent(v, k, 50));
            ints("consent's other", 0, 1, LAST_PERSON, 1, OUTSIDE, v -> new DoorActs().consent(50, k, v));
        }
        ints("consent's person, kind 2", 0, 1, LAST_PERSON, 1, OUTSIDE, v -> new DoorActs().consent(v, 2, 50));
        ints("consent's other, kind 2: not looked at", 0, 1, LAST_PERSON, 1, 1, v -> new DoorActs().consent(50, 2, v));
        ints("the same, when taken back", 0, 0, LAST_PERSON, 0, 0, v -> {
            DoorActs x = new DoorActs();
            x.consent(50, 2, 7);
            return x.consent(50, 2, v);
        });
        ints("consent's kind", 0, 1, 2, 1, OUTSIDE, v -> new DoorActs().consent(1, v, 2));
    }

    private static void actItems(boolean off) {
        for (int known : new int[] {1, 59, 60}) {
            ints("act's item, " + known + " known", 1, 8, known, 8, UNKNOWN, v -> {
                DoorActs x = withItems(known, 0, 1);
                x.cut(2, off);
                // An item that came since then is there, but not for a device off line.
                if (off && known < 60) {
                    x.item(0, 1);
                }
                return Acts.damage(x, 2, v, 0);
            });
        }
    }

    private static void actDevicesAndKinds(boolean off) {
        ints("act's device", 0, 8, 7, 8, OUTSIDE, v -> {
            DoorActs x = withItems(1, 0, 1);
            x.cut(v, off);
            return Acts.damage(x, v, 1, 0);
        });
        ints("act's kind", 0, 1, 5, 4, OUTSIDE, v -> {
            DoorActs x = withItems(1, 0, 1);
            x.consent(1, 2, 0);
            x.cut(2, off);
            return x.act(2, 1, v, 1, NONE, 0);
        });
    }

    /** One item that the act can be done with, at the time t at the latest. */
    private static DoorActs readyFor(int kind, int receiver, boolean off, long t) {
        DoorActs x = withItems(1, 0, receiver);
        x.consent(receiver, 2, 0);
        x.cut(2, off);
        if (kind == Acts.WRONG) {
            Acts.hand(x, 2, 1, receiver, NONE, t);
        }
        return x;
    }

    private static int outcome(int kind) {
        int[] outcomes = {1, 5, 7, 8, 9, 4};
        return outcomes[kind];
    }

    private static void actPersons(boolean off) {
        for (int kind = 0; kind <= 5; kind++) {
            int k = kind;
            int due = outcome(kind);
            boolean byPerson = kind == Acts.HAND || kind == Acts.REFUSE;
            ints("who of act " + kind, byPerson ? 0 : NONE, due, LAST_PERSON, due, OUTSIDE, v -> {
                DoorActs x = readyFor(k, v == LAST_PERSON ? LAST_PERSON : 0, off, 0);
                return x.act(2, 1, k, v, NONE, 0);
            });
        }
    }

    private static void actProofs(boolean off) {
        for (int kind = 0; kind <= 5; kind++) {
            int k = kind;
            int due = outcome(kind);
            ints("proof of act " + kind, NONE, due, 399, due, OUTSIDE, v -> {
                int receiver = v == 399 ? LAST_PERSON : 0;
                return readyFor(k, receiver, off, 0).act(2, 1, k, receiver, v, 0);
            });
        }
        for (int sort = 0; sort <= 3; sort++) {
            c.due("the first person's", readyFor(0, 0, off, 0).act(2, 1, 0, 0, sort, 0), 1);
            c.due("not the first person's", readyFor(0, 1, off, 0).act(2, 1, 0, 1, sort, 0), DoorActs.PROOF);
            c.due("the last person's", readyFor(0, 99, off, 0).act(2, 1, 0, 99, 396 + sort, 0), 1);
            c.due("not the last person's", readyFor(0, 98, off, 0).act(2, 1, 0, 98, 396 + sort, 0), DoorActs.PROOF);
        }
    }

    private static void actTimes(boolean off) {
        for (int kind = 0; kind <= 5; kind++) {
            int k = kind;
            int due = outcome(kind);
            longs("t of act " + kind, 0, due, LAST_TIME, due, t -> {
                DoorActs x = readyFor(k, 1, off, Math.max(0, Math.min(t, LAST_TIME)));
                return x.act(2, 1, k, 1, NONE, t);
            });
        }
    }

    private static void actTimesBefore(boolean off) {
        for (long before : new long[] {1, 1439, 1440, LAST_TIME - 1, LAST_TIME}) {
            longs("t, the act before at " + before, before, 5, LAST_TIME, 5, t -> {
                DoorActs x = withItems(2, 0, 1);
                x.cut(2, off);
                Acts.damage(x, 2, 1, before);
                return Acts.card(x, 2, 2, t);
            });
        }
    }

    private static void join() {
        ints("join's device, on line", 0, STATE, 7, STATE, OUTSIDE, v -> new DoorActs().join(v));
        ints("join's device, off line", 0, 0, 7, 0, OUTSIDE, v -> {
            DoorActs x = new DoorActs();
            for (int device = 0; device < 8; device++) {
                x.cut(device, true);
            }
            return x.join(v);
        });
    }

    /** Device 7 was joined with so many rows that clash with those of device 6. */
    private static DoorActs withClashes(int count) {
        DoorActs x = withItems(count, 0, 1);
        x.cut(7, true);
        for (int item = 1; item <= count; item++) {
            Acts.damage(x, 6, item, 0);
            Acts.damage(x, 7, item, 0);
        }
        x.join(7);
        return x;
    }

    private static void clash() {
        for (int count : new int[] {1, 2, 30}) {
            ints("clash's number, of " + count, 0, 1, count - 1, count, -1, v -> withClashes(count).clash(v, 0));
            ints("the same, side 1", 0, 6, count - 1, 6, -1, v -> withClashes(count).clash(v, 1));
            ints("the same, side 2", 0, 7, count - 1, 7, -1, v -> withClashes(count).clash(v, 2));
            ints("clash's side", 0, 1, 2, 7, OUTSIDE, v -> withClashes(count).clash(0, v));
            ints("clash's side, none such", 0, -1, 2, -1, OUTSIDE, v -> withClashes(count).clash(count, v));
        }
        ints("clash's side, none at all", 0, -1, 2, -1, OUTSIDE, v -> new DoorActs().clash(0, v));
    }

    private static void cut() {
        ints("cut's device", 0, 1, 7, 1, 0, v -> new DoorActs().cut(v, true) ? 1 : 0);
        ints("cut's device, not on", 0, 1, 7, 1, 0, v -> {
            DoorActs x = new DoorActs();
            for (int device = 0; device < 8; device++) {
                x.cut(device, true);
            }
            return x.cut(v, false) ? 1 : 0;
        });
    }

    private static void itemsOfTheOthers() {
        for (int count : new int[] {1, 7, 60}) {
            int due = 250 * (1 + count % 7);
            ints("tries' item", 1, 0, count, 0, UNKNOWN, v -> withItems(count, 0, 1).tries(v));
            ints("state's item", 1, 0, count, 0, UNKNOWN, v -> withItems(count, 0, 1).state(v));
            ints("slip's item", 1, STATE, count, STATE, UNKNOWN, v -> withItems(count, 4, 1).slip(v, 1));
            ints("cash's item", 1, 499, count, due - 1, UNKNOWN, v -> withItems(count, 5, 1).cash(v, 1));
        }
    }

    private static void tick() {
        for (long today : new long[] {0, 1, 5, LAST_DAY - 1, LAST_DAY}) {
            longs("tick's day, on day " + today, today, 0, LAST_DAY, 0, day -> {
                DoorActs x = new DoorActs();
                x.tick(today);
                return x.tick(day);
            });
        }
    }

    private static void slip() {
        ints("slip's who", -1, 2, LAST_PERSON, 1, OUTSIDE, v -> {
            int receiver = v == LAST_PERSON ? LAST_PERSON : 0;
            DoorActs x = withItems(1, 4, receiver);
            Acts.hand(x, 0, 1, receiver, Acts.proof(receiver, 0), 0);
            if (v == -1) {
                c.due("slip's who, the first person", x.slip(1, 0), 1);
            }
            return x.slip(1, v);
        });
        ints("slip's who, signed already", -1, 2, LAST_PERSON, STATE, OUTSIDE, v -> {
            DoorActs x = withItems(1, 4, 1);
            Acts.hand(x, 0, 1, 1, Acts.proof(1, 0), 0);
            x.slip(1, 1);
            return x.slip(1, v);
        });
    }

    private static void cash() {
        longs("cash's cents", 1, 499, 1000000, STATE, cents -> withItems(1, 5, 1).cash(1, cents));
        longs("cash's cents, no such service", 1, STATE, 1000000, STATE, cents -> withItems(1, 0, 1).cash(1, cents));
    }
}
