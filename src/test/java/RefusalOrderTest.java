/** "REFUSALS are answers, of several the first one here": every set of refusals that one call can earn at once. */
public final class RefusalOrderTest {
    private static final int UNKNOWN = DoorActs.UNKNOWN, OUTSIDE = DoorActs.OUTSIDE, STATE = DoorActs.STATE, ROOM = DoorActs.ROOM;
    private static final int WHO = DoorActs.WHO, PROOF = DoorActs.PROOF, CASH = DoorActs.CASH;
    /** The refusals of an act in their order; bit i of a set stands for the i-th. */
    private static final int[] ORDER = {UNKNOWN, OUTSIDE, STATE, ROOM, WHO, PROOF, CASH};
    private static final String[] OUTSIDES = {"device", "kind", "who", "proof", "t below 0", "t above 10^9", "t before"};
    /** Which of them each kind of act can earn. */
    private static final int[] SETS = {0b1111111, 0b0001111, 0b0011111, 0b0001111, 0b0001111, 0b0011111};
    private static final int[] OUTCOMES = {1, 5, 7, 8, 9, 4};
    private static final int DEVICE = 2, RECEIVER = 1, STRANGER = 9;
    private static final long BEFORE = 7;
    // Of service 5, or plain ones for act 5, as a set asks for it; BEHIND came after the device was cut off.
    private static final int GOOD = 1, GOOD_DUE = 2, BACK = 3, BACK_DUE = 4, FIRST_ROW_ITEM = 5, BEHIND = 35;
    private static final Checks c = new Checks("RefusalOrderTest");

    public static void main(String[] args) {
        for (int kind = 0; kind <= 5; kind++) {
            for (int set = 0; set < 1 << ORDER.length; set++) {
                if ((set & ~SETS[kind]) == 0) {
                    acts(kind, set);
                }
            }
        }
        items();
        consents();
        clashes();
        slips();
        cashes();
        c.end();
    }

    private static boolean has(int set, int refusal) {
        for (int i = 0; i < ORDER.length; i++) {
            if (ORDER[i] == refusal) {
                return (set >> i & 1) != 0;
            }
        }
        throw new IllegalArgumentException();
    }

    private static int first(int set, int otherwise) {
        for (int i = 0; i < ORDER.length; i++) {
            if ((set >> i & 1) != 0) {
                return ORDER[i];
            }
        }
        return otherwise;
    }

    private static DoorActs post(int kind, int set) {
        DoorActs x = new DoorActs();
        int service = kind == Acts.LEAVE ? 0 : 5;
        for (int item = GOOD; item < BEHIND; item++) {
            x.item(item < FIRST_ROW_ITEM ? service : 0, RECEIVER);
        }
        x.cash(GOOD, 500);
        x.cash(BACK, 1000);
        Acts.refuse(x, 0, BACK, RECEIVER, 0);
        Acts.refuse(x, 0, BACK_DUE, RECEIVER, 0);
        if (kind == Acts.LEAVE && !has(set, WHO)) {
            x.consent(RECEIVER, 2, 0);
        }
        if (kind == Acts.WRONG) {
            Acts.hand(x, DEVICE, GOOD, RECEIVER, -1, BEFORE);
        }
        x.cut(DEVICE, true);
        x.item(service, RECEIVER);
        int rows = has(set, ROOM) ? 30 : 29;
        for (int i = 0; i < rows; i++) {
            Acts.damage(x, DEVICE, FIRST_ROW_ITEM + i, BEFORE);
        }
        return x;
    }

    private static void acts(int kind, int set) {
        int item = has(set, STATE) ? has(set, CASH) ? BACK_DUE : BACK : has(set, CASH) ? GOOD_DUE : GOOD;
        int who = has(set, WHO) ? STRANGER : RECEIVER;
        int proof = has(set, PROOF) ? Acts.proof(50, 2) : -1;
        int due = first(set, OUTCOMES[kind]);
        int[] items = has(set, UNKNOWN) ? new int[] {0, BEHIND, BEHIND + 1} : new int[] {item};
        for (int it : items) {
            if (has(set, OUTSIDE)) {
                for (String outside : OUTSIDES) {
                    actOutside(kind, set, it, who, proof, outside);
                }
            } else {
                c.due(told(kind, set), post(kind, set).act(DEVICE, it, kind, who, proof, BEFORE), due);
            }
        }
    }

    private static void actOutside(int kind, int set, int item, int who, int proof, String outside) {
        int device = outside.equals("device") ? 8 : DEVICE;
        if (device == 8 && item == BEHIND) {
            return;
        }
        int k = outside.equals("kind") ? 6 : kind;
        int w = outside.equals("who") ? 100 : who;
        int p = outside.equals("proof") ? 400 : proof;
        long t = outside.equals("t below 0") ? -1 : outside.equals("t above 10^9") ? 1000000001L
            : outside.equals("t before") ? BEFORE - 1 : BEFORE;
        c.due(told(kind, set) + " " + outside, post(kind, set).act(device, item, k, w, p, t), first(set, 0));
    }

    private static String told(int kind, int set) {
        StringBuilder all = new StringBuilder("act " + kind + " that earns");
        for (int refusal : ORDER) {
            if (has(set, refusal)) {
                all.append(' ').append(refusal);
            }
        }
        return all.toString();
    }

    private static void items() {
        DoorActs x = new DoorActs();
        for (int i = 0; i < 60; i++) {
            x.item(0, 1);
        }
        c.due("ROOM", x.item(0, 1), ROOM);
        for (int no : new int[] {-1, 100, Integer.MIN_VALUE, Integer.MAX_VALUE}) {
            c.due("OUTSIDE by the service, and ROOM", x.item(no, 1), OUTSIDE);
            c.due("OUTSIDE by the receiver, and ROOM", x.item(0, no), OUTSIDE);
        }
    }

    private static void consents() {
        DoorActs roomy = new DoorActs();
        DoorActs full = new DoorActs();
        for (int i = 0; i < 100; i++) {
            c.due("told", full.consent(50 + i % 50, i / 50, 0), 1);
        }
        for (DoorActs x : new DoorActs[] {roomy, full}) {
            for (int no : new int[] {-1, 100, Integer.MIN_VALUE, Integer.MAX_VALUE}) {
                c.due("OUTSIDE by the person", x.consent(no, 2, 0), OUTSIDE);
                c.due("OUTSIDE by both persons, and STATE", x.consent(no, 0, no), OUTSIDE);
                c.due("OUTSIDE by the other", x.consent(5, 1, no), OUTSIDE);
                c.due("OUTSIDE by the kind, and STATE", x.consent(5, no, 5), OUTSIDE);
            }
            c.due("STATE", x.consent(5, 0, 5), STATE);
            c.due("STATE", x.consent(5, 1, 5), STATE);
            c.due("that person, but for kind 2", x.consent(5, 2, 5), x == full ? ROOM : 1);
        }
    }

    private static void clashes() {
        DoorActs x = new DoorActs();
        for (int side : new int[] {-1, 3, Integer.MIN_VALUE, Integer.MAX_VALUE}) {
            c.due("no such side, and none such", x.clash(0, side), OUTSIDE);
            c.due("no such side, and none such", x.clash(-1, side), OUTSIDE);
        }
    }

    private static void slips() {
        DoorActs x = Acts.withItem(4);
        x.item(0, 1);
        x.consent(1, 1, 2);
        for (int who : new int[] {-2, 100, Integer.MIN_VALUE, Integer.MAX_VALUE}) {
            c.due("UNKNOWN and OUTSIDE", x.slip(3, who), UNKNOWN);
            c.due("UNKNOWN and OUTSIDE", x.slip(0, who), UNKNOWN);
            c.due("OUTSIDE and STATE by the state", x.slip(1, who), OUTSIDE);
            c.due("OUTSIDE and STATE by the service", x.slip(2, who), OUTSIDE);
        }
        c.due("STATE by the state, and WHO", x.slip(1, 50), STATE);
        Acts.hand(x, 0, 1, 2, Acts.proof(2, 0), 0);
        Acts.hand(x, 0, 2, 2, -1, 0);
        c.due("STATE by the service, and WHO", x.slip(2, 1), STATE);
        c.due("STATE by the service alone", x.slip(2, 2), STATE);
        c.due("STATE as nobody signed", x.slip(1, -1), STATE);
        c.due("WHO", x.slip(1, 1), WHO);
        c.due("signed", x.slip(1, 2), 1);
        c.due("STATE as it is signed, and WHO", x.slip(1, 1), STATE);
        c.due("sent back", x.slip(1, -1), 2);
        c.due("STATE as it is sent back, and WHO", x.slip(1, 1), STATE);
        c.due("OUTSIDE, and STATE as it is sent back", x.slip(1, 100), OUTSIDE);
    }

    private static void cashes() {
        DoorActs x = Acts.withItem(5);
        x.item(0, 1);
        x.item(5, 1);
        Acts.refuse(x, 0, 3, 1, 0);
        for (long cents : new long[] {0, -1, 1000001, Long.MIN_VALUE, Long.MAX_VALUE}) {
            c.due("UNKNOWN and OUTSIDE", x.cash(4, cents), UNKNOWN);
            c.due("UNKNOWN and OUTSIDE", x.cash(0, cents), UNKNOWN);
            c.due("OUTSIDE", x.cash(1, cents), OUTSIDE);
            c.due("OUTSIDE and STATE by the service", x.cash(2, cents), OUTSIDE);
            c.due("OUTSIDE and STATE by the state", x.cash(3, cents), OUTSIDE);
        }
        c.due("STATE by the service", x.cash(2, 1), STATE);
        c.due("STATE by the state", x.cash(3, 1), STATE);
        c.due("STATE by what is due", x.cash(1, 501), STATE);
        c.due("nothing was changed", x.cash(1, 500), 0);
    }
}
