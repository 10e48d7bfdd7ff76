/** Promise 9. */
public final class TickTest {
    public static void main(String[] args) {
        Checks c = new Checks("TickTest");
        inputs(c);
        goingBack(c);
        notKept(c);
        c.end();
    }

    private static void inputs(Checks c) {
        DoorActs x = new DoorActs();
        c.due("tick(-1)", x.tick(-1), DoorActs.OUTSIDE);
        c.due("tick(MIN)", x.tick(Long.MIN_VALUE), DoorActs.OUTSIDE);
        c.due("tick(10^6 + 1)", x.tick(1000001), DoorActs.OUTSIDE);
        c.due("tick(MAX)", x.tick(Long.MAX_VALUE), DoorActs.OUTSIDE);
        c.due("tick(2^32)", x.tick(1L << 32), DoorActs.OUTSIDE);
        c.due("a refused one changes nothing", x.tick(0), 0);
        c.due("tick(5)", x.tick(5), 0);
        c.due("tick(4)", x.tick(4), DoorActs.OUTSIDE);
        c.due("tick(5) again", x.tick(5), 0);
        c.due("tick(10^6)", x.tick(1000000), 0);
        c.due("tick(10^6 - 1)", x.tick(999999), DoorActs.OUTSIDE);
        c.due("acts have times of their own", x.item(0, 1), 1);
        c.due("acts have times of their own", Acts.card(x, 0, 1, 0), 5);
    }

    private static void goingBack(Checks c) {
        DoorActs x = new DoorActs();
        for (int item = 1; item <= 4; item++) {
            x.item(item, 1);
            Acts.card(x, item, item, Acts.at(0, 0));
        }
        Acts.card(x, 1, 1, Acts.at(1, 0));
        Acts.card(x, 2, 2, Acts.at(1, 1439));
        Acts.card(x, 3, 3, Acts.at(2, 0));
        c.due("the seventh day behind", x.tick(8), 0);
        c.due("the day after", x.tick(9), 2);
        c.due("gone back", x.state(1), 8);
        c.due("gone back", x.state(2), 8);
        c.due("kept", x.state(3), 2);
        c.due("carded", x.state(4), 1);
        c.due("only once", x.tick(9), 0);
        c.due("the next one", x.tick(1000000), 1);
        c.due("carded", x.state(4), 1);
        c.due("a second card of long ago", Acts.card(x, 4, 4, Acts.at(1, 0)), 6);
        c.due("kept", x.state(4), 2);
        c.due("until a day is told", x.tick(1000000), 1);
        c.due("the last day's last kept one", x.item(0, 1), 5);
        Acts.card(x, 0, 5, Acts.at(694443, 0));
        c.due("second card at 10^9", Acts.card(x, 0, 5, 1000000000L), 6);
        c.due("694451 is before", x.tick(1000000), 1);
    }

    private static void notKept(Checks c) {
        DoorActs handed = Acts.withKeptItem(0);
        Acts.hand(handed, 0, 1, 1, 4, Acts.at(1, 0));
        c.due("handed over", handed.tick(100), 0);
        c.due("wrong house", Acts.wrong(handed, 0, 1, Acts.at(1, 0)), 9);
        c.due("kept again", handed.state(1), 2);
        c.due("kept up to a day before", handed.tick(100), 1);
        DoorActs refused = Acts.withKeptItem(0);
        Acts.damage(refused, 0, 1, Acts.at(1, 0));
        Acts.refuse(refused, 0, 1, 1, Acts.at(1, 0));
        c.due("refused", refused.tick(100), 0);
        c.due("refused", refused.state(1), 17);
        DoorActs damaged = Acts.withKeptItem(0);
        Acts.damage(damaged, 0, 1, Acts.at(1, 0));
        c.due("damaged", damaged.tick(9), 1);
        c.due("damaged", damaged.state(1), 18);
    }
}
