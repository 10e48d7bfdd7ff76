import java.util.ArrayList;

/** The acts at the doors of a post; the promises of DOC.md tell what each call answers. */
public final class DoorActs {
    public static final int UNKNOWN = -11, OUTSIDE = -12, STATE = -13, ROOM = -14, WHO = -21, PROOF = -22, CASH = -23;

    private static final int PERSONS = 100, DEVICES = 8, MOST_ITEMS = 60, MOST_CONSENTS = 100, MOST_ROWS = 30;
    // A clash comes from a row, and a row from a call of its own: an object's 512 calls make fewer than this.
    private static final int MOST_CLASHES = 512;
    private static final int NOBODY = -1, NO_PROOF = -1, NO_DEVICE = -1, NO_CLASH = -1;
    private static final int SORTS = 4, LAST_PROOF = PERSONS * SORTS - 1;
    private static final int MINUTES_OF_A_DAY = 1440, DAYS_KEPT = 7;
    private static final long LAST_TIME = 1000000000L, LAST_DAY = 1000000L, MOST_CENTS = 1000000L;

    private static final int PLAIN = 0, SIGNED = 1, OWN_HAND = 2, OF_AGE = 3, WITH_SLIP = 4, FOR_CASH = 5;
    private static final int NEIGHBOUR = 0, ORDER = 1, LEAVING = 2;
    private static final int OUT = 0, CARDED = 1, KEPT = 2, HANDED_FIRST = 3, HANDED_LAST = 6, REFUSED = 7, KEPT_TOO_LONG = 8;
    private static final int HAND = 0, CARD = 1, REFUSE = 2, DAMAGE = 3, WRONG = 4, LEAVE = 5;
    private static final int TO_RECEIVER = 1, BY_ORDER = 2, TO_NEIGHBOUR = 3, LEFT = 4, FIRST_CARD = 5, SECOND_CARD = 6;
    private static final int WAS_REFUSED = 7, DAMAGE_NOTED = 8, HAND_UNDONE = 9;
    private static final int SLIP_OPEN = 0, SLIP_SIGNED = 1, SLIP_SENT = 2;
    private static final int DAMAGED_MORE = 10;

    private final ArrayList<Item> items = new ArrayList<Item>();
    private final ArrayList<Clash> clashes = new ArrayList<Clash>();
    private final Consents consents = new Consents();
    private final Device[] devices = new Device[DEVICES];
    private long today = 0;

    public DoorActs() {
        for (int i = 0; i < DEVICES; i++) {
            devices[i] = new Device();
        }
    }

    public int item(int service, int receiver) {
        if (service < PLAIN || service > FOR_CASH || !isPerson(receiver)) {
            return OUTSIDE;
        }
        if (items.size() >= MOST_ITEMS) {
            return ROOM;
        }
        items.add(new Item(items.size() + 1, service, receiver));
        return items.size();
    }

    public int consent(int person, int kind, int other) {
        if (!isPerson(person) || kind < NEIGHBOUR || kind > LEAVING) {
            return OUTSIDE;
        }
        if (kind == LEAVING) {
            return consents.turn(person, LEAVING, NOBODY);
        }
        if (!isPerson(other)) {
            return OUTSIDE;
        }
        return other == person ? STATE : consents.turn(person, kind, other);
    }

    public int act(int device, int item, int kind, int who, int proof, long t) {
        Item it = itemOf(item);
        if (it == null) {
            return UNKNOWN;
        }
        if (!isDevice(device)) {
            return OUTSIDE;
        }
        Device by = devices[device];
        Facts seen = by.off ? by.factsOf(it) : it.facts;
        if (seen == null) {
            return UNKNOWN;
        }
        if (!isActAsSaid(kind, who, proof) || t < by.latestTime || t > LAST_TIME) {
            return OUTSIDE;
        }
        int day = (int) (t / MINUTES_OF_A_DAY);
        if (!seen.allow(kind, device, day)) {
            return STATE;
        }
        if (by.off && by.rows.size() >= MOST_ROWS) {
            return ROOM;
        }
        int outcome = outcomeOf(it, seen, kind, who, proof);
        if (outcome < 0) {
            return outcome;
        }
        Act done = new Act(it, device, kind, who, outcome, day);
        seen.change(done);
        by.latestTime = t;
        if (by.off) {
            by.rows.add(done);
        }
        return outcome;
    }

    public int join(int device) {
        if (!isDevice(device)) {
            return OUTSIDE;
        }
        Device joined = devices[device];
        if (!joined.off) {
            return STATE;
        }
        int clashesBefore = clashes.size();
        int rowCount = joined.rows.size();
        for (int i = 0; i < rowCount; i++) {
            doForAll(joined.rows.get(i));
        }
        joined.goOnLine();
        return clashes.size() == clashesBefore ? rowCount : -1 - clashesBefore;
    }

    public int clash(int i, int side) {
        if (side < 0 || side > 2) {
            return OUTSIDE;
        }
        if (i < 0 || i >= clashes.size()) {
            return NO_CLASH;
        }
        Clash found = clashes.get(i);
        if (side == 0) {
            return found.item;
        }
        return side == 1 ? found.latestDevice : found.joinedDevice;
    }

    public boolean cut(int device, boolean on) {
        if (!isDevice(device) || devices[device].off == on) {
            return false;
        }
        if (on) {
            devices[device].goOffLine(items);
        } else {
            devices[device].goOnLine();
        }
        return true;
    }

    public int tries(int item) {
        Item it = itemOf(item);
        return it == null ? UNKNOWN : it.facts.cards;
    }

    public int tick(long day) {
        if (day < today || day > LAST_DAY) {
            return OUTSIDE;
        }
        today = day;
        int gone = 0;
        for (int i = 0; i < items.size(); i++) {
            if (items.get(i).facts.goBackBy(day)) {
                gone++;
            }
        }
        return gone;
    }

    public int slip(int item, int who) {
        Item it = itemOf(item);
        if (it == null) {
            return UNKNOWN;
        }
        if (who != NOBODY && !isPerson(who)) {
            return OUTSIDE;
        }
        Facts facts = it.facts;
        int slipDue = who == NOBODY ? SLIP_SIGNED : SLIP_OPEN;
        if (it.service != WITH_SLIP || !facts.isHandedOver() || facts.slip != slipDue) {
            return STATE;
        }
        if (who != NOBODY && who != facts.taker) {
            return WHO;
        }
        facts.slip = who == NOBODY ? SLIP_SENT : SLIP_SIGNED;
        return facts.slip;
    }

    public int cash(int item, long cents) {
        Item it = itemOf(item);
        if (it == null) {
            return UNKNOWN;
        }
        if (cents < 1 || cents > MOST_CENTS) {
            return OUTSIDE;
        }
        if (it.service != FOR_CASH || it.facts.state > KEPT || cents > it.due) {
            return STATE;
        }
        it.due -= (int) cents;
        return it.due;
    }

    public int state(int item) {
        Item it = itemOf(item);
        if (it == null) {
            return UNKNOWN;
        }
        return it.facts.damaged ? it.facts.state + DAMAGED_MORE : it.facts.state;
    }

    private static boolean isPerson(int person) {
        return person >= 0 && person < PERSONS;
    }

    private static boolean isDevice(int device) {
        return device >= 0 && device < DEVICES;
    }

    private static boolean isActAsSaid(int kind, int who, int proof) {
        if (kind < HAND || kind > LEAVE || proof < NO_PROOF || proof > LAST_PROOF) {
            return false;
        }
        boolean needsPerson = kind == HAND || kind == REFUSE;
        return isPerson(who) || who == NOBODY && !needsPerson;
    }

    private Item itemOf(int number) {
        return number >= 1 && number <= items.size() ? items.get(number - 1) : null;
    }

    // A row was judged by persons, proofs and cash when it was done; only the states may be others by now.
    private void doForAll(Act row) {
        Facts facts = row.item.facts;
        if (facts.allow(row.kind, row.device, row.day)) {
            facts.change(row);
        } else if (clashes.size() < MOST_CLASHES) {
            clashes.add(new Clash(row.item.number, facts.latestDevice, row.device));
        }
    }

    private int outcomeOf(Item item, Facts seen, int kind, int who, int proof) {
        switch (kind) {
            case HAND:
                return handOutcome(item, seen, who, proof);
            case CARD:
                return seen.state == OUT ? FIRST_CARD : SECOND_CARD;
            case REFUSE:
                return who == item.receiver || hasOrder(item, who) ? WAS_REFUSED : WHO;
            case DAMAGE:
                return DAMAGE_NOTED;
            case WRONG:
                return HAND_UNDONE;
            default:
                return item.service == PLAIN && consents.stand(item.receiver, LEAVING, NOBODY) ? LEFT : WHO;
        }
    }

    private int handOutcome(Item item, Facts seen, int who, int proof) {
        int outcome = takerOutcome(item, seen, who);
        if (outcome < 0) {
            return outcome;
        }
        if (!isProofEnough(item, seen, who, proof)) {
            return PROOF;
        }
        return item.due > 0 ? CASH : outcome;
    }

    private int takerOutcome(Item item, Facts seen, int who) {
        if (who == item.receiver) {
            return TO_RECEIVER;
        }
        if (hasOrder(item, who)) {
            return BY_ORDER;
        }
        boolean neighboursMay = item.service <= SIGNED && seen.state != KEPT;
        return neighboursMay && consents.stand(item.receiver, NEIGHBOUR, who) ? TO_NEIGHBOUR : WHO;
    }

    private boolean hasOrder(Item item, int who) {
        return item.service != OWN_HAND && consents.stand(item.receiver, ORDER, who);
    }

    private static boolean isProofEnough(Item item, Facts seen, int who, int proof) {
        if (proof == NO_PROOF) {
            return seen.state != KEPT && (item.service == PLAIN || item.service == FOR_CASH);
        }
        if (proof / SORTS != who) {
            return false;
        }
        int sort = proof % SORTS;
        if (item.service == OWN_HAND) {
            return sort == 1 || sort == 2;
        }
        return item.service != OF_AGE || sort == 2;
    }

    private static final class Item {
        final int number;
        final int service;
        final int receiver;
        final Facts facts = new Facts();
        int due;

        Item(int number, int service, int receiver) {
            this.number = number;
            this.service = service;
            this.receiver = receiver;
            this.due = service == FOR_CASH ? 250 * (1 + number % 7) : 0;
        }
    }

    /** What is so of an item: for all, or as a device that is off line knows it. */
    private static final class Facts {
        int state = OUT;
        int stateBefore = OUT;
        boolean damaged = false;
        int cards = 0;
        int cardDay = 0;
        int keptTo = 0;
        int handDevice = NO_DEVICE;
        int handDay = 0;
        int taker = NOBODY;
        int slip = SLIP_OPEN;
        int latestDevice = NO_DEVICE;

        void copyFrom(Facts other) {
            state = other.state;
            stateBefore = other.stateBefore;
            damaged = other.damaged;
            cards = other.cards;
            cardDay = other.cardDay;
            keptTo = other.keptTo;
            handDevice = other.handDevice;
            handDay = other.handDay;
            taker = other.taker;
            slip = other.slip;
            latestDevice = other.latestDevice;
        }

        boolean isHandedOver() {
            return state >= HANDED_FIRST && state <= HANDED_LAST;
        }

        boolean allow(int kind, int device, int day) {
            switch (kind) {
                case HAND:
                case REFUSE:
                    return state <= KEPT;
                case CARD:
                    return state == OUT || state == CARDED && day > cardDay;
                case DAMAGE:
                    return state < REFUSED && !damaged;
                case WRONG:
                    return isHandedOver() && handDevice == device && handDay == day;
                default:
                    return state <= CARDED;
            }
        }

        void change(Act act) {
            latestDevice = act.device;
            switch (act.kind) {
                case CARD:
                    leaveCard(act.day);
                    break;
                case REFUSE:
                    state = REFUSED;
                    break;
                case DAMAGE:
                    damaged = true;
                    break;
                case WRONG:
                    state = stateBefore;
                    slip = SLIP_OPEN;
                    break;
                default:
                    handOver(act);
                    break;
            }
        }

        private void leaveCard(int day) {
            cards++;
            if (state == OUT) {
                state = CARDED;
                cardDay = day;
            } else {
                state = KEPT;
                keptTo = day + DAYS_KEPT;
            }
        }

        private void handOver(Act act) {
            stateBefore = state;
            // The states 3 .. 6 stand in the order of the outcomes 1 .. 4.
            state = HANDED_FIRST + act.outcome - TO_RECEIVER;
            handDevice = act.device;
            handDay = act.day;
            taker = act.who;
        }

        boolean goBackBy(long day) {
            if (state != KEPT || keptTo >= day) {
                return false;
            }
            state = KEPT_TOO_LONG;
            latestDevice = NO_DEVICE;
            return true;
        }
    }

    /** An act that was not refused; a device that is off line keeps it as a row. */
    private static final class Act {
        final Item item;
        final int device;
        final int kind;
        final int who;
        final int outcome;
        final int day;

        Act(Item item, int device, int kind, int who, int outcome, int day) {
            this.item = item;
            this.device = device;
            this.kind = kind;
            this.who = who;
            this.outcome = outcome;
            this.day = day;
        }
    }

    private static final class Clash {
        final int item;
        final int latestDevice;
        final int joinedDevice;

        Clash(int item, int latestDevice, int joinedDevice) {
            this.item = item;
            this.latestDevice = latestDevice;
            this.joinedDevice = joinedDevice;
        }
    }

    private static final class Device {
        boolean off = false;
        long latestTime = 0;
        final ArrayList<Act> rows = new ArrayList<Act>();
        // Kept from one time off line to the next, so that cutting off again makes no objects anew.
        private final ArrayList<Facts> known = new ArrayList<Facts>();

        /** Null for an item that came after the device was cut off. */
        Facts factsOf(Item item) {
            int index = item.number - 1;
            return index >= 0 && index < known.size() ? known.get(index) : null;
        }

        void goOffLine(ArrayList<Item> items) {
            off = true;
            for (int i = 0; i < items.size(); i++) {
                if (i >= known.size()) {
                    known.add(new Facts());
                }
                known.get(i).copyFrom(items.get(i).facts);
            }
        }

        void goOnLine() {
            off = false;
            rows.clear();
        }
    }

    private static final class Consents {
        private final int[] told = new int[MOST_CONSENTS];
        private int count = 0;

        boolean stand(int person, int kind, int other) {
            return placeOf(codeOf(person, kind, other)) >= 0;
        }

        int turn(int person, int kind, int other) {
            int code = codeOf(person, kind, other);
            int place = placeOf(code);
            if (place >= 0) {
                count--;
                told[place] = told[count];
                return 0;
            }
            if (count >= MOST_CONSENTS) {
                return ROOM;
            }
            told[count] = code;
            count++;
            return 1;
        }

        private int placeOf(int code) {
            for (int i = 0; i < count; i++) {
                if (told[i] == code) {
                    return i;
                }
            }
            return -1;
        }

        // One number for each consent: NOBODY, the other of a consent to leave, counts as one more person.
        private static int codeOf(int person, int kind, int other) {
            return (kind * PERSONS + person) * (PERSONS + 1) + other + 1;
        }
    }
}
