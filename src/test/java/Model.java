import java.util.ArrayList;
import java.util.HashSet;
import java.util.List;
import java.util.Set;

/**
 * The document told a second time, as plainly as can be and in another way: an item is the list of all that befell
 * it, and what is so of it is found by going through that list anew.
 */
final class Model {
    private static final int GONE_BACK = 10, SIGNED = 11, SENT = 12;

    record Event(int device, int kind, int who, int outcome, long day) {
    }

    record Row(int item, Event event) {
    }

    private final List<int[]> items = new ArrayList<>();
    private final List<List<Event>> forAll = new ArrayList<>();
    private final List<Long> paid = new ArrayList<>();
    private final Set<String> consents = new HashSet<>();
    private final List<List<List<Event>>> views = new ArrayList<>();
    private final List<List<Row>> rows = new ArrayList<>();
    private final long[] latest = new long[8];
    private final List<int[]> clashes = new ArrayList<>();
    private long day = 0;

    Model() {
        for (int i = 0; i < 8; i++) {
            views.add(null);
            rows.add(new ArrayList<>());
        }
    }

    private static boolean in(long low, long x, long high) {
        return low <= x && x <= high;
    }

    private static boolean handed(int state) {
        return in(3, state, 6);
    }

    private static int state(List<Event> log) {
        int state = 0;
        int before = 0;
        for (Event e : log) {
            if (e.kind == 0 || e.kind == 5) {
                before = state;
                state = 2 + e.outcome;
            } else if (e.kind == 1) {
                state = state == 0 ? 1 : 2;
            } else if (e.kind == 2) {
                state = 7;
            } else if (e.kind == 4) {
                state = before;
            } else if (e.kind == GONE_BACK) {
                state = 8;
            }
        }
        return state;
    }

    private static Event last(List<Event> log, int... kinds) {
        for (int i = log.size() - 1; i >= 0; i--) {
            for (int kind : kinds) {
                if (log.get(i).kind == kind) {
                    return log.get(i);
                }
            }
        }
        return null;
    }

    private static boolean can(List<Event> log, int device, int kind, long day) {
        int state = state(log);
        return switch (kind) {
            case 0, 2 -> in(0, state, 2);
            case 1 -> state == 0 || state == 1 && day > last(log, 1).day;
            case 3 -> state < 7 && last(log, 3) == null;
            case 4 -> handed(state) && last(log, 0, 5).device == device && last(log, 0, 5).day == day;
            default -> in(0, state, 1);
        };
    }

    private boolean consented(int person, int kind, int other) {
        return consents.contains(person + " " + kind + " " + (kind == 2 ? 0 : other));
    }

    private long due(int item) {
        return items.get(item - 1)[0] == 5 ? 250 * (1 + item % 7) - paid.get(item - 1) : 0;
    }

    int item(int service, int receiver) {
        if (!in(0, service, 5) || !in(0, receiver, 99)) {
            return -12;
        }
        if (items.size() == 60) {
            return -14;
        }
        items.add(new int[] {service, receiver});
        forAll.add(new ArrayList<>());
        paid.add(0L);
        return items.size();
    }

    int consent(int person, int kind, int other) {
        if (!in(0, person, 99) || !in(0, kind, 2) || kind < 2 && !in(0, other, 99)) {
            return -12;
        }
        if (kind < 2 && other == person) {
            return -13;
        }
        String told = person + " " + kind + " " + (kind == 2 ? 0 : other);
        if (consents.remove(told)) {
            return 0;
        }
        if (consents.size() == 100) {
            return -14;
        }
        consents.add(told);
        return 1;
    }

    int act(int device, int item, int kind, int who, int proof, long t) {
        boolean off = isOff(device);
        List<List<Event>> known = off ? views.get(device) : forAll;
        if (!in(1, item, known.size())) {
            return -11;
        }
        boolean byPerson = kind == 0 || kind == 2;
        if (!in(0, device, 7) || !in(0, kind, 5) || !in(byPerson ? 0 : -1, who, 99) || !in(-1, proof, 399)) {
            return -12;
        }
        if (!in(0, t, 1_000_000_000L) || t < latest[device]) {
            return -12;
        }
        List<Event> log = known.get(item - 1);
        if (!can(log, device, kind, t / 1440)) {
            return -13;
        }
        if (off && rows.get(device).size() == 30) {
            return -14;
        }
        int outcome = outcome(item, state(log), kind, who, proof);
        if (outcome > 0) {
            latest[device] = t;
            Event event = new Event(device, kind, who, outcome, t / 1440);
            log.add(event);
            if (off) {
                rows.get(device).add(new Row(item, event));
            }
        }
        return outcome;
    }

    private int outcome(int item, int state, int kind, int who, int proof) {
        int service = items.get(item - 1)[0];
        int receiver = items.get(item - 1)[1];
        boolean ordered = consented(receiver, 1, who) && service != 2;
        switch (kind) {
            case 0:
                boolean next = consented(receiver, 0, who) && service < 2 && state != 2;
                int outcome = who == receiver ? 1 : ordered ? 2 : next ? 3 : -21;
                boolean alien = proof != -1 && Math.floorDiv(proof, 4) != who;
                String sorts = service == 2 ? "12" : service == 3 ? "2" : service == 1 || service == 4 || state == 2 ? "0123" : "-0123";
                boolean enough = sorts.contains(proof == -1 ? "-" : "" + proof % 4);
                return outcome < 0 ? outcome : alien || !enough ? -22 : due(item) > 0 ? -23 : outcome;
            case 1:
                return state == 0 ? 5 : 6;
            case 2:
                return who == receiver || ordered ? 7 : -21;
            case 5:
                return service == 0 && consented(receiver, 2, 0) ? 4 : -21;
            default:
                return kind + 5;
        }
    }

    boolean isOff(int device) {
        return in(0, device, 7) && views.get(device) != null;
    }

    int join(int device) {
        if (!in(0, device, 7)) {
            return -12;
        }
        if (views.get(device) == null) {
            return -13;
        }
        int first = clashes.size();
        for (Row row : rows.get(device)) {
            List<Event> log = forAll.get(row.item - 1);
            if (can(log, device, row.event.kind, row.event.day)) {
                log.add(row.event);
            } else {
                Event before = last(log, 0, 1, 2, 3, 4, 5, GONE_BACK);
                clashes.add(new int[] {row.item, before == null ? -1 : before.device, device});
            }
        }
        int count = rows.get(device).size();
        cut(device, false);
        return first == clashes.size() ? count : -1 - first;
    }

    int clash(int i, int side) {
        return !in(0, side, 2) ? -12 : in(0, i, clashes.size() - 1) ? clashes.get(i)[side] : -1;
    }

    boolean cut(int device, boolean on) {
        if (!in(0, device, 7) || on == (views.get(device) != null)) {
            return false;
        }
        List<List<Event>> view = new ArrayList<>();
        for (List<Event> log : forAll) {
            view.add(new ArrayList<>(log));
        }
        views.set(device, on ? view : null);
        rows.get(device).clear();
        return true;
    }

    int tries(int item) {
        return in(1, item, items.size()) ? (int) forAll.get(item - 1).stream().filter(e -> e.kind == 1).count() : -11;
    }

    int tick(long next) {
        if (next < day || next > 1_000_000) {
            return -12;
        }
        day = next;
        int gone = 0;
        for (List<Event> log : forAll) {
            if (state(log) == 2 && last(log, 1).day + 7 < day) {
                log.add(new Event(-1, GONE_BACK, -1, 0, day));
                gone++;
            }
        }
        return gone;
    }

    int slip(int item, int who) {
        if (!in(1, item, items.size())) {
            return -11;
        }
        if (!in(-1, who, 99)) {
            return -12;
        }
        List<Event> log = forAll.get(item - 1);
        if (items.get(item - 1)[0] != 4 || !handed(state(log))) {
            return -13;
        }
        Event slip = last(log, 0, SIGNED, SENT);
        if (slip.kind != (who == -1 ? SIGNED : 0)) {
            return -13;
        }
        if (who != -1 && slip.who != who) {
            return -21;
        }
        log.add(new Event(-1, who == -1 ? SENT : SIGNED, who, 0, day));
        return who == -1 ? 2 : 1;
    }

    int cash(int item, long cents) {
        if (!in(1, item, items.size())) {
            return -11;
        }
        if (!in(1, cents, 1_000_000)) {
            return -12;
        }
        if (items.get(item - 1)[0] != 5 || state(forAll.get(item - 1)) > 2 || cents > due(item)) {
            return -13;
        }
        paid.set(item - 1, paid.get(item - 1) + cents);
        return (int) due(item);
    }

    int state(int item) {
        if (!in(1, item, items.size())) {
            return -11;
        }
        List<Event> log = forAll.get(item - 1);
        return state(log) + (last(log, 3) == null ? 0 : 10);
    }
}
