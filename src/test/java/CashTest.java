/** Promise 11. */
public final class CashTest {
    public static void main(String[] args) {
        Checks c = new Checks("CashTest");
        dues(c);
        inputs(c);
        states(c);
        c.end();
    }

    private static void dues(Checks c) {
        DoorActs x = new DoorActs();
        for (int item = 1; item <= 60; item++) {
            x.item(5, 1);
            int due = 250 * (1 + item % 7);
            c.due("more than is due for " + item, x.cash(item, due + 1), DoorActs.STATE);
            c.due("a cent for " + item, x.cash(item, 1), due - 1);
            c.due("more than is still due for " + item, x.cash(item, due), DoorActs.STATE);
            c.due("the rest for " + item, x.cash(item, due - 1), 0);
            c.due("nothing is due for " + item, x.cash(item, 1), DoorActs.STATE);
        }
    }

    private static void inputs(Checks c) {
        DoorActs x = Acts.withItem(5);
        int[] noItems = {0, -1, 2, Integer.MIN_VALUE, Integer.MAX_VALUE};
        for (int item : noItems) {
            c.due("cash(" + item + ", 0)", x.cash(item, 0), DoorActs.UNKNOWN);
        }
        long[] noCents = {0, -1, 1000001, Long.MIN_VALUE, Long.MAX_VALUE, (1L << 32) + 1};
        for (long cents : noCents) {
            c.due("cash(1, " + cents + ")", x.cash(1, cents), DoorActs.OUTSIDE);
        }
        c.due("cash(1, 1000000)", x.cash(1, 1000000), DoorActs.STATE);
        c.due("nothing was changed", x.cash(1, 500), 0);
        for (int service = 0; service <= 4; service++) {
            DoorActs y = Acts.withItem(service);
            c.due("service " + service, y.cash(1, 1), DoorActs.STATE);
            c.due("OUTSIDE before STATE", y.cash(1, 0), DoorActs.OUTSIDE);
        }
    }

    private static void states(Checks c) {
        DoorActs x = Acts.withItem(5);
        c.due("out", x.cash(1, 100), 400);
        Acts.damage(x, 1, 1, 0);
        c.due("damaged", x.cash(1, 100), 300);
        Acts.card(x, 0, 1, 0);
        c.due("carded", x.cash(1, 100), 200);
        Acts.card(x, 0, 1, 1440);
        c.due("kept", x.cash(1, 100), 100);
        Acts.refuse(x, 0, 1, 1, 1440);
        c.due("refused", x.cash(1, 100), DoorActs.STATE);
        DoorActs late = Acts.withKeptItem(5);
        late.tick(9);
        c.due("gone back", late.cash(1, 100), DoorActs.STATE);
        DoorActs again = Acts.withItem(5);
        again.cash(1, 500);
        again.cut(0, true);
        Acts.hand(again, 0, 1, 1, -1, 0);
        again.join(0);
        Acts.wrong(again, 0, 1, 0);
        c.due("what was paid stays paid", Acts.hand(again, 0, 1, 1, -1, 0), 1);
        DoorActs off = Acts.withItem(5);
        off.cut(0, true);
        Acts.refuse(off, 0, 1, 1, 0);
        c.due("refused off line, out for all", off.cash(1, 100), 400);
    }
}
