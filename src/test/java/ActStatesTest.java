/**
 * What STATE means for each act: every act is tried with an item in every state, whole and damaged, by the device that
 * brought it there and by another one, on the days round those of the item: on line, off line, and at a join.
 */
public final class ActStatesTest {
    private static final int STATE = DoorActs.STATE;
    private static final int RECEIVER = 1, ORDERED = 2, NEXT_DOOR = 3;
    private static final int DOER = 0, OTHER = 1;
    // A card is left on day 10, the second one or what hands the item over comes on day 11.
    private static final long CARD_DAY = 10, LATE_DAY = 11;
    private static final Checks c = new Checks("ActStatesTest");

    public static void main(String[] args) {
        for (int state = 0; state <= 8; state++) {
            for (int damaged = 0; damaged <= 1; damaged++) {
                for (int kind = 0; kind <= 5; kind++) {
                    for (int device = DOER; device <= OTHER; device++) {
                        for (long day = CARD_DAY - 1; day <= LATE_DAY + 1; day++) {
                            onLine(state, damaged == 1, kind, device, day);
                            offLine(state, damaged == 1, kind, device, day);
                        }
                    }
                    for (long day = CARD_DAY - 1; day <= LATE_DAY + 1; day++) {
                        joined(state, damaged == 1, kind, day);
                    }
                }
            }
        }
        c.end();
    }

    private static DoorActs post() {
        DoorActs x = Acts.withItem(0);
        x.consent(RECEIVER, 1, ORDERED);
        x.consent(RECEIVER, 0, NEXT_DOOR);
        x.consent(RECEIVER, 2, 0);
        return x;
    }

    /** Brings an item that is out to a state; the device DOER does it all, but for the damage. */
    private static void bringTo(DoorActs x, int state, boolean damaged) {
        if (damaged) {
            Acts.damage(x, 7, 1, 0);
        }
        if (state == 1 || state == 2) {
            Acts.card(x, DOER, 1, Acts.at(CARD_DAY, 5));
        }
        if (state == 2) {
            Acts.card(x, DOER, 1, Acts.at(LATE_DAY, 5));
        } else if (state >= 3 && state <= 5) {
            Acts.hand(x, DOER, 1, RECEIVER + state - 3, -1, Acts.at(LATE_DAY, 5));
        } else if (state == 6) {
            Acts.leave(x, DOER, 1, Acts.at(LATE_DAY, 5));
        } else if (state == 7) {
            Acts.refuse(x, DOER, 1, RECEIVER, Acts.at(LATE_DAY, 5));
        } else if (state == 8) {
            Acts.card(x, DOER, 1, Acts.at(2, 5));
            Acts.card(x, DOER, 1, Acts.at(3, 5));
            x.tick(11);
        }
        c.due("brought to " + state, x.state(1), state + (damaged ? 10 : 0));
    }

    /** The latest day of DOER's acts in bringTo: before its last minute it does nothing more. */
    private static long lastDay(int state) {
        return state == 0 ? 0 : state == 1 ? CARD_DAY : state == 8 ? 3 : LATE_DAY;
    }

    private static boolean canBe(int state, boolean damaged, int kind, int device, long day) {
        switch (kind) {
            case Acts.HAND:
            case Acts.REFUSE:
                return state == 0 || state == 1 || state == 2;
            case Acts.CARD:
                return state == 0 || state == 1 && day > CARD_DAY;
            case Acts.DAMAGE:
                return state < 7 && !damaged;
            case Acts.WRONG:
                return state >= 3 && state <= 6 && device == DOER && day == LATE_DAY;
            default:
                return state == 0 || state == 1;
        }
    }

    private static int outcome(int state, int kind) {
        int[] outcomes = {1, state == 0 ? 5 : 6, 7, 8, 9, 4};
        return outcomes[kind];
    }

    private static int stateAfter(int state, boolean damaged, int kind) {
        int[] after = {3, state + 1, 7, state, 0, 6};
        return after[kind] + (damaged || kind == Acts.DAMAGE ? 10 : 0);
    }

    private static int act(DoorActs x, int device, int kind, long t) {
        int proof = kind == Acts.HAND ? Acts.proof(RECEIVER, 0) : -1;
        return x.act(device, 1, kind, RECEIVER, proof, t);
    }

    private static String told(int state, boolean damaged, int kind, int device, long day) {
        return "act " + kind + " in state " + state + (damaged ? ", damaged" : "") + ", device " + device + ", day " + day;
    }

    private static void onLine(int state, boolean damaged, int kind, int device, long day) {
        if (device == DOER && day < lastDay(state)) {
            return;
        }
        DoorActs x = post();
        bringTo(x, state, damaged);
        boolean can = canBe(state, damaged, kind, device, day);
        String what = told(state, damaged, kind, device, day);
        c.due(what, act(x, device, kind, Acts.at(day, 1439)), can ? outcome(state, kind) : STATE);
        int before = state + (damaged ? 10 : 0);
        c.due(what + ": the state", x.state(1), can ? stateAfter(state, damaged, kind) : before);
    }

    private static void offLine(int state, boolean damaged, int kind, int device, long day) {
        if (device == DOER && day < lastDay(state)) {
            return;
        }
        DoorActs x = post();
        bringTo(x, state, damaged);
        x.cut(device, true);
        boolean can = canBe(state, damaged, kind, device, day);
        String what = "off line: " + told(state, damaged, kind, device, day);
        c.due(what, act(x, device, kind, Acts.at(day, 1439)), can ? outcome(state, kind) : STATE);
        int before = state + (damaged ? 10 : 0);
        c.due(what + ": not yet for all", x.state(1), before);
        c.due(what + ": the rows", x.join(device), can ? 1 : 0);
        c.due(what + ": the state", x.state(1), can ? stateAfter(state, damaged, kind) : before);
    }

    /** The device OTHER knows the item as out; the state that it is held against is that of its join. */
    private static void joined(int state, boolean damaged, int kind, long day) {
        DoorActs x = post();
        x.cut(OTHER, true);
        String what = "joined: " + told(state, damaged, kind, OTHER, day);
        boolean wrong = kind == Acts.WRONG;
        if (wrong) {
            act(x, OTHER, Acts.HAND, Acts.at(day, 0));
        }
        c.due(what, act(x, OTHER, kind, Acts.at(day, 1439)), outcome(0, kind));
        bringTo(x, state, damaged);
        // The wrong house of its own handing over can be if that could be, and its state is the one before.
        boolean can = canBe(state, damaged, wrong ? Acts.HAND : kind, OTHER, day);
        int rows = wrong ? 2 : 1;
        int before = state + (damaged ? 10 : 0);
        c.due(what + ": join", x.join(OTHER), can ? rows : -1);
        c.due(what + ": the state", x.state(1), can && !wrong ? stateAfter(state, damaged, kind) : before);
        int latest = state == 8 ? -1 : state == 0 && damaged ? 7 : DOER;
        c.due(what + ": clash, the item", x.clash(0, 0), can ? -1 : 1);
        c.due(what + ": clash, the latest device", x.clash(0, 1), can ? -1 : latest);
        c.due(what + ": clash, the joined device", x.clash(0, 2), can ? -1 : OTHER);
        c.due(what + ": one clash for each row", x.clash(rows - 1, 0), can ? -1 : 1);
        c.due(what + ": no more", x.clash(rows, 0), -1);
    }
}
