/** What is full: 60 items, 100 consents, 30 rows; and how it is used when it is full. */
public final class FullTest {
    private static final int OUTSIDE = DoorActs.OUTSIDE, UNKNOWN = DoorActs.UNKNOWN, ROOM = DoorActs.ROOM, STATE = DoorActs.STATE;
    private static final int MOST_ITEMS = 60, MOST_CONSENTS = 100, MOST_ROWS = 30;
    private static final Checks c = new Checks("FullTest");

    public static void main(String[] args) {
        sixtyItems();
        allGoBackAtOnce();
        knownSixty();
        for (int kind = 0; kind <= 2; kind++) {
            hundredConsents(kind);
        }
        roomIsForAllKinds();
        thirtyRows();
        roomIsBackWithoutRows();
        roomIsBackAfterAJoin();
        allDevicesFull();
        noRoomNeededOnLine();
        c.end();
    }

    private static DoorActs withItems(int count) {
        DoorActs x = new DoorActs();
        for (int i = 0; i < count; i++) {
            x.item(0, 1);
        }
        return x;
    }

    private static void sixtyItems() {
        DoorActs x = withItems(MOST_ITEMS - 1);
        c.due("item 60", x.item(5, 99), MOST_ITEMS);
        for (int service = 0; service <= 5; service++) {
            c.due("no item 61", x.item(service, service), ROOM);
        }
        c.due("no item 61", x.state(61), UNKNOWN);
        c.due("no item 61", Acts.damage(x, 0, 61, 0), UNKNOWN);
        c.due("item 60 is due 250 times 5", x.cash(60, 1250), 0);
        c.due("item 60", Acts.hand(x, 0, 60, 99, -1, 0), 1);
        c.due("item 1", Acts.hand(x, 0, 1, 1, -1, 0), 1);
        Acts.refuse(x, 0, 2, 1, 0);
        c.due("one that has gone back counts too", x.item(0, 0), ROOM);
    }

    private static void allGoBackAtOnce() {
        DoorActs x = withItems(MOST_ITEMS);
        for (int day = 0; day <= 1; day++) {
            for (int item = 1; item <= MOST_ITEMS; item++) {
                Acts.card(x, 0, item, Acts.at(day, 0));
            }
        }
        c.due("up to day 8", x.tick(8), 0);
        c.due("all of them", x.tick(9), MOST_ITEMS);
        c.due("only once", x.tick(10), 0);
        c.due("the first", x.state(1), 8);
        c.due("the last", x.state(MOST_ITEMS), 8);
    }

    private static void knownSixty() {
        DoorActs x = withItems(MOST_ITEMS - 1);
        x.cut(0, true);
        c.due("item 60", x.item(0, 1), MOST_ITEMS);
        x.cut(1, true);
        c.due("cut off before it came", Acts.damage(x, 0, 60, 0), UNKNOWN);
        c.due("the one before it", Acts.damage(x, 0, 59, 0), 8);
        c.due("cut off since it came", Acts.damage(x, 1, 60, 0), 8);
        c.due("on line", Acts.card(x, 2, 60, 0), 5);
        c.due("join", x.join(0), 1);
        c.due("joined, so it knows it", Acts.card(x, 0, 60, 1440), 6);
        c.due("join", x.join(1), 1);
        x.cut(0, true);
        c.due("cut off anew, so it knows it", Acts.damage(x, 0, 60, 1440), STATE);
    }

    /** The i-th of a hundred consents of a kind. */
    private static int tell(DoorActs x, int kind, int i) {
        return x.consent(i, kind, (i + 1) % 100);
    }

    private static void hundredConsents(int kind) {
        DoorActs x = new DoorActs();
        for (int i = 0; i < MOST_CONSENTS; i++) {
            c.due("told", tell(x, kind, i), 1);
        }
        int[] kindsMore = kind == 2 ? new int[] {0, 1} : new int[] {0, 1, 2};
        for (int more : kindsMore) {
            c.due("no room for kind " + more, x.consent(5, more, 50), ROOM);
        }
        c.due("no room, but another one's number", x.consent(5, 0, 100), OUTSIDE);
        c.due("no room, but that person", x.consent(5, 0, 5), STATE);
        c.due("the last one taken back", tell(x, kind, 99), 0);
        c.due("room for one", x.consent(5, (kind + 1) % 2, 50), 1);
        c.due("no more", tell(x, kind, 99), ROOM);
        c.due("the first one taken back", tell(x, kind, 0), 0);
        c.due("room for one", tell(x, kind, 99), 1);
        c.due("no more", tell(x, kind, 0), ROOM);
        for (int i = 1; i < MOST_CONSENTS; i++) {
            c.due("each stood", tell(x, kind, i), 0);
        }
        c.due("and the other one", x.consent(5, (kind + 1) % 2, 50), 0);
        for (int i = 0; i < MOST_CONSENTS; i++) {
            c.due("told anew", tell(x, kind, i), 1);
        }
        c.due("full anew", x.consent(5, (kind + 1) % 2, 50), ROOM);
    }

    private static void roomIsForAllKinds() {
        DoorActs x = Acts.withItem(0);
        x.item(0, 1);
        x.item(0, 1);
        c.due("neighbour", x.consent(1, 0, 2), 1);
        c.due("order", x.consent(1, 1, 3), 1);
        for (int i = 2; i < MOST_CONSENTS - 1; i++) {
            c.due("told", x.consent(2 + i % 2, i % 2, 4 + i / 2), 1);
        }
        c.due("the hundredth", x.consent(1, 2, 0), 1);
        c.due("the next one of kind 0", x.consent(1, 0, 3), ROOM);
        c.due("the next one of kind 1", x.consent(1, 1, 2), ROOM);
        c.due("the next one of kind 2", x.consent(2, 2, 0), ROOM);
        c.due("the first one stands", Acts.hand(x, 0, 1, 2, -1, 0), 3);
        c.due("the second one stands", Acts.hand(x, 0, 2, 3, -1, 0), 2);
        c.due("the hundredth stands", Acts.leave(x, 0, 3, 0), 4);
    }

    /** Device 2 is off line and has so many rows: the damage of the items 1, 2, .. at the times 1, 2, .. */
    private static DoorActs withRows(int count) {
        DoorActs x = withItems(MOST_ROWS + 5);
        x.consent(1, 2, 0);
        x.cut(2, true);
        for (int item = 1; item <= count; item++) {
            c.due("row " + item, Acts.damage(x, 2, item, item), 8);
        }
        return x;
    }

    private static void thirtyRows() {
        DoorActs x = withRows(MOST_ROWS - 1);
        c.due("row 30", Acts.hand(x, 2, 31, 1, -1, 30), 1);
        c.due("hand", Acts.hand(x, 2, 32, 1, -1, 30), ROOM);
        c.due("card", Acts.card(x, 2, 32, 30), ROOM);
        c.due("refuse", Acts.refuse(x, 2, 32, 1, 30), ROOM);
        c.due("damage", Acts.damage(x, 2, 32, 30), ROOM);
        c.due("wrong", Acts.wrong(x, 2, 31, 30), ROOM);
        c.due("leave", Acts.leave(x, 2, 32, 30), ROOM);
        c.due("the time of a refused one does not count", Acts.damage(x, 2, 32, 1000), ROOM);
        c.due("30 rows", x.join(2), MOST_ROWS);
        c.due("row 1", x.state(1), 10);
        c.due("row 29", x.state(29), 10);
        c.due("row 30", x.state(31), 3);
        c.due("none of those", x.state(32), 0);
        c.due("on line there is room", Acts.wrong(x, 2, 31, 30), 9);
    }

    private static void roomIsBackWithoutRows() {
        DoorActs x = withRows(MOST_ROWS);
        c.due("full", Acts.damage(x, 2, 31, 30), ROOM);
        c.due("cut off already", x.cut(2, true), false);
        c.due("full still", Acts.damage(x, 2, 31, 30), ROOM);
        c.due("on line without them", x.cut(2, false), true);
        c.due("cut off again", x.cut(2, true), true);
        for (int item = 1; item <= MOST_ROWS; item++) {
            c.due("row " + item, Acts.damage(x, 2, item, 30), 8);
        }
        c.due("full again", Acts.damage(x, 2, 31, 30), ROOM);
        c.due("join", x.join(2), MOST_ROWS);
    }

    private static void roomIsBackAfterAJoin() {
        DoorActs x = withRows(MOST_ROWS);
        c.due("join", x.join(2), MOST_ROWS);
        c.due("cut off again", x.cut(2, true), true);
        for (int item = 1; item <= MOST_ROWS; item++) {
            c.due("row " + item, Acts.card(x, 2, item, 30), 5);
        }
        c.due("full again", Acts.damage(x, 2, 31, 30), ROOM);
        c.due("join", x.join(2), MOST_ROWS);
    }

    private static void allDevicesFull() {
        DoorActs x = withItems(MOST_ROWS + 1);
        for (int device = 0; device < 8; device++) {
            x.cut(device, true);
            for (int item = 1; item <= MOST_ROWS; item++) {
                c.due("each has rows of its own", Acts.damage(x, device, item, 0), 8);
            }
            c.due("30 of them", Acts.damage(x, device, 31, 0), ROOM);
        }
        c.due("the first one joined", x.join(7), MOST_ROWS);
        for (int device = 6; device >= 0; device--) {
            int first = MOST_ROWS * (6 - device);
            c.due("all of them clash", x.join(device), -1 - first);
            c.due("the first row", x.clash(first, 0), 1);
            c.due("the last row", x.clash(first + 29, 0), 30);
            c.due("by the first one joined", x.clash(first + 29, 1), 7);
            c.due("no more", x.clash(first + 30, 0), -1);
        }
    }

    private static void noRoomNeededOnLine() {
        DoorActs x = withItems(MOST_ITEMS);
        for (int item = 1; item <= MOST_ITEMS; item++) {
            c.due("on line", Acts.damage(x, 2, item, 0), 8);
        }
        x.cut(2, true);
        c.due("those are no rows", Acts.card(x, 2, 1, 0), 5);
        c.due("one row", x.join(2), 1);
    }
}
