/** "An object is used for at most 512 calls": the answers of its last calls, and the most clashes that it can have. */
public final class LastCallTest {
    private static final int MOST_CALLS = 512, ROWS = 30;
    private static final Checks c = new Checks("LastCallTest");

    public static void main(String[] args) {
        lastCallIsAJoin();
        manyClashes();
        joinsThatLookLikeRefusals();
        c.end();
    }

    private static void lastCallIsAJoin() {
        DoorActs x = Acts.withItem(0);
        x.cut(1, true);
        Acts.card(x, 1, 1, 0);
        Acts.damage(x, 1, 1, 0);
        for (int call = 5; call < MOST_CALLS; call++) {
            c.due("call " + call, x.tick(call), 0);
        }
        c.due("the last call", x.join(1), 2);
        DoorActs y = Acts.withItem(0);
        y.cut(1, true);
        Acts.card(y, 1, 1, 0);
        Acts.card(y, 0, 1, 0);
        for (int call = 5; call < MOST_CALLS - 1; call++) {
            c.due("call " + call, y.state(1), 1);
        }
        c.due("the last call but one", y.join(1), -1);
        c.due("the last call", y.clash(0, 2), 1);
    }

    /** Seven devices that all hand over what device 0 has handed over, and find that it was the wrong house, and so on. */
    private static void manyClashes() {
        DoorActs x = Acts.withItem(0);
        int calls = 1;
        int clashes = 0;
        while (calls + 7 * (ROWS + 2) + 2 + 3 <= MOST_CALLS) {
            for (int device = 1; device <= 7; device++) {
                x.cut(device, true);
                for (int row = 0; row < ROWS; row++) {
                    c.due("row", row % 2 == 0 ? Acts.hand(x, device, 1, 1, -1, 0) : Acts.wrong(x, device, 1, 0), row % 2 == 0 ? 1 : 9);
                }
            }
            c.due("handed over", Acts.hand(x, 0, 1, 1, -1, 0), 1);
            for (int device = 1; device <= 7; device++) {
                c.due("join", x.join(device), -1 - clashes);
                clashes += ROWS;
            }
            c.due("wrong house", Acts.wrong(x, 0, 1, 0), 9);
            calls += 7 * (ROWS + 2) + 2;
        }
        c.due("so many clashes", clashes, 420);
        c.due("the last one", x.clash(clashes - 1, 2), 7);
        c.due("the first one", x.clash(0, 2), 1);
        c.due("no more", x.clash(clashes, 0), -1);
    }

    /** The clashes 10 to 13 are told by the numbers of refusals, and are none. */
    private static void joinsThatLookLikeRefusals() {
        for (int before = 9; before <= 14; before++) {
            DoorActs x = new DoorActs();
            for (int item = 1; item <= before + 1; item++) {
                x.item(0, 1);
            }
            x.cut(1, true);
            x.cut(2, true);
            for (int item = 1; item <= before; item++) {
                Acts.damage(x, 1, item, 0);
                Acts.damage(x, 0, item, 0);
            }
            Acts.damage(x, 2, before + 1, 0);
            Acts.damage(x, 0, before + 1, 0);
            c.due("the clashes before", x.join(1), -1);
            c.due("clash " + before, x.join(2), -1 - before);
            c.due("its item", x.clash(before, 0), before + 1);
            c.due("it is on line", x.join(2), DoorActs.STATE);
        }
    }
}
